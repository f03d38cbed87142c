def gtbl : List Cond := lw_tbl.filter goodWord
def nfs : List (String × Nat × String × String × String × String) := [("BombFamilies", 40, "BombFamilies$Bytes", "size", "I", "BombFamilies"), ("BombFamilies$Reader", 83, "BombFamilies$Bytes", "size", "I", "BombFamilies"), ("BombFamilies$Maker", 66, "BombFamilies$Bytes", "size", "I", "BombFamilies"), ("BombFamilies$Reader", 73, "BombFamilies$Items", "size", "I", "BombFamilies"), ("BombFamilies", 83, "BombFamilies$Items", "size", "I", "BombFamilies"), ("BombFamilies$Reader", 205, "BombFamilies$Table", "longest", "I", "BombFamilies"), ("BombFamilies$Reader", 131, "BombFamilies$Pack", "from", "I", "BombFamilies"), ("BombFamilies$Reader", 128, "BombFamilies$Pack", "end", "I", "BombFamilies"), ("BombFamilies$Reader", 178, "BombFamilies$Pack", "cameAhead", "I", "BombFamilies"), ("BombFamilies$Reader", 163, "BombFamilies$Pack", "firstItem", "I", "BombFamilies"), ("BombFamilies$Reader", 166, "BombFamilies$Pack", "items", "I", "BombFamilies"), ("BombFamilies", 73, "BombFamilies$Reader", "out", "LBombFamilies$Bytes;", "BombFamilies"), ("BombFamilies", 79, "BombFamilies$Reader", "items", "LBombFamilies$Items;", "BombFamilies"), ("BombFamilies", 98, "BombFamilies$Reader", "cost", "I", "BombFamilies"), ("BombFamilies", 101, "BombFamilies$Reader", "deepest", "I", "BombFamilies"), ("BombFamilies", 104, "BombFamilies$Reader", "begun", "I", "BombFamilies"), ("BombFamilies", 107, "BombFamilies$Reader", "fault", "I", "BombFamilies"), ("BombFamilies", 76, "BombFamilies$Reader", "faultPlace", "I", "BombFamilies"), ("BombFamilies", 110, "BombFamilies$Reader", "reads", "I", "BombFamilies")]
def Nz (U : State) : Prop := (∀ q ∈ nfs, va_Nw (.fieldLinkNest q.1 q.2.1 q.2.2.1 q.2.2.2.1 q.2.2.2.2.1 q.2.2.2.2.2) U) ∧ va_Nw (.methodLinkNest RX4 43 yX3_init RX6) U
theorem Nz.warm {s U : State} (hW : s.WarmedH U.vm) (h : Nz s) : Nz U := ⟨fun q hq => va_Nw.warmF hW (h.1 q hq), va_Nw.warmM hW h.2⟩
theorem Nz.same {u U : State} (hv : u.vm = U.vm) (h : Nz u) : Nz U := ⟨fun q hq => va_Nw.same rfl hv (h.1 q hq), va_Nw.same rfl hv h.2⟩
theorem gt_mem {w : Cond} (h : w ∈ lw_tbl) (hg : goodWord w = true) : w ∈ gtbl := List.mem_filter.mpr ⟨h, hg⟩
theorem gt_good {w : Cond} (h : w ∈ gtbl) : goodWord w = true := (List.mem_filter.mp h).2
theorem gt_i {w : Cond} (i : Nat) (h : tables_1[i]? = some w) (hg : goodWord w = true) : w ∈ gtbl := gt_mem (List.mem_append_right _ (List.mem_of_getElem? h)) hg
theorem gt_goodIn {ws : List Cond} (h : ∀ w ∈ ws, w ∈ gtbl) : GoodIn gtbl ws := fun w hw => ⟨h w hw, good_of_word (gt_good (h w hw))⟩
theorem gt_sub {x : Cond} (hx : x ∈ gtbl) : ∀ w ∈ x :: gtbl, w ∈ gtbl := fun w hw => (List.mem_cons.mp hw).elim (fun e => e ▸ hx) id
def tyl (G : Gg) : List (ClassId × FieldType) := [(G.2.1, .int), (G.2.2.1, .object RX3)]
def rm (d : Nat) : Room := { frames := d, cells := 0, slots := 0, locals := 48 * d }
def Aa (G : Gg) (sz : Nat) : Nat → Prop := fun q => (∃ d, d < sh.length ∧ q = G.2.2.2 d) ∨ sz ≤ q
theorem Aa.mono {G : Gg} {a b : Nat} (h : a ≤ b) {q : Nat} (hq : Aa G b q) : Aa G a q := hq.elim Or.inl (fun h1 => Or.inr (Nat.le_trans h h1))
def Wd (G : Gg) (M : Mm) (A : Nat → Prop) (t : State) : Prop := va_P G.1 vwCl (wc G M) t.heap ∧ va_K G.1 vwCl (tyl G) t ∧ va_D A (wc G M) ∧ Nz t
def Wo (G : Gg) (s : State) (M : Mm) (H : Heap) (locs : List Loc) : Prop := va_P G.1 vwCl (wc G M) H ∧ va_D (Aa G s.heap.size) (wc G M) ∧ va_S (Aa G s.heap.size) s.heap H locs
def Cx (p : Program) (m : MethodId) (c : Code) (meth : Method) (cc : ByteArray) (nL : Nat) (s : State) (args : Array Value) (own : String) (ret : Option FieldType) (G : Gg) : Prop := CallFix p m c cc nL s args gtbl own ∧ meth.sig.returnType = ret ∧ meth.locks = false ∧ va_K G.1 vwCl (tyl G) s ∧ Nz s
def Pq (G : Gg) (M : Mm) (As : List Value) (sz : Nat) : Array Value → State → Prop := va_Pc As (fun U => U.heap.size = sz ∧ Wd G M (fun _ => True) U)
def Qvi (G : Gg) (sz : Nat) (r : Int32) (M' : Mm) : Array Value → State → Outcome → State → Prop := va_Qi (fun (x : Int32) (u : Mm) => x = r ∧ u = M') (fun u t => Wd G u (Aa G sz) t) (Aa G sz)
def Qvv (G : Gg) (sz : Nat) (M' : Mm) : Array Value → State → Outcome → State → Prop := va_Qv (fun (u : Mm) => u = M') (fun u t => Wd G u (Aa G sz) t) (Aa G sz)
def CTi (l : Launch) (y : MethodName) (cc : ByteArray) (nL : Nat) (ret : Option FieldType) (d : Nat) (G : Gg) (As : List Value) (M : Mm) (r : Int32) (M' : Mm) : Prop := ∀ sz, Met l y (.code y cc nL ret :: gtbl) (rm d) (Pq G M As sz) (Qvi G sz r M') 0 0 (Aa G sz)
def CTv (l : Launch) (y : MethodName) (cc : ByteArray) (nL : Nat) (d : Nat) (G : Gg) (As : List Value) (M : Mm) (M' : Mm) : Prop := ∀ sz, Met l y (.code y cc nL none :: gtbl) (rm d) (Pq G M As sz) (Qvv G sz M') 0 0 (Aa G sz)
def Qi (below : List Frame) (args : Array Value) (s : State) (G : Gg) (r : Int32) (M' : Mm) : State → Prop := MQ below (Qvi G s.heap.size r M') args s 0 0 (Aa G s.heap.size)
def Qv (below : List Frame) (args : Array Value) (s : State) (G : Gg) (M' : Mm) : State → Prop := MQ below (Qvv G s.heap.size M') args s 0 0 (Aa G s.heap.size)
theorem Wd.blind {G : Gg} {M : Mm} {As : List Value} {sz : Nat} : FrameBlind (Pq G M As sz) := fun a U g mk q => by
  obtain ⟨q0, q1, qP, qK, qD, qN⟩ := q
  exact ⟨q0, q1, qP, va_K.moved (u := U) (U := U.calling g mk a) (Vm.Alike.refl U.vm) qK, qD, Nz.same (u := U) (U := U.calling g mk a) rfl qN⟩
theorem Wo.pre {G : Gg} {s : State} {M : Mm} {H : Heap} {locs : List Loc} (h : Wo G s M H locs) (hK : va_K G.1 vwCl (tyl G) s) (hN : Nz s) (As : List Value) : ∀ U : State, U.heap = H → s.WarmedH U.vm → Pq G M As H.size As.toArray U := fun U hU hw => ⟨rfl, by rw [hU], by rw [hU]; exact h.1, va_K.moved hw.alike hK, h.2.1.weaken (fun _ _ _ _ => trivial), hN.warm hw⟩
theorem Wo.post {G : Gg} {s t : State} {M M' : Mm} {H H1 : Heap} {locs locs1 : List Loc} (h : Wo G s M H locs) (ht : t.heap = H1) (hB : Wd G M' (Aa G H.size) t) (hS : va_S (Aa G s.heap.size) s.heap H1 locs1) : Wo G s M' H1 locs1 := ⟨by rw [← ht]; exact hB.1, hB.2.2.1.weaken (fun _ _ _ hq => Aa.mono h.2.2.1 hq), hS⟩
section BK
variable {p : Program} {l : Launch} {e : Env} {R : Room} {s : State} {m : MethodId} {args : Array Value} {below : List Frame} {meth : Method} {c : Code} {H : Heap} {locs : List Loc} {cells slots : Nat} {Q : State → Prop} {cc : ByteArray} {nL : Nat} {own : String} {ret : Option FieldType} {G : Gg} {M : Mm} {pc : Nat} {ls : Array Slot} {rest : List Value}
/-- a method's start -/
theorem ct_i {y : MethodName} {d : Nat} {As : List Value} {r : Int32} {M' : Mm} (hy : plainName y.cls = true) (hlen : (lg_sl As).length ≤ nL)
    (body : ∀ (p : Program) (e : Env) (s : State) (m : MethodId) (below : List Frame) (meth : Method) (c : Code) (ls : Array Slot), Cx p m c meth cc nL s As.toArray y.cls ret G → lv_has ls nL (lv_args 0 As) → Wo G s M s.heap [] →
      W p l e (rm d) s m As.toArray below meth c s.heap [] 0 0 (Qi below As.toArray s G r M') (F0 m 0 ls [])) : CTi l y cc nL ret d G As M r M' := by
  intro sz
  refine Met.ofW (cc := cc) (maxL := nL) (ret := ret) hy rfl ?_
  intro p e s m args below meth c s₁ B hml hv
  obtain ⟨rfl, hsz, hP, hK, hD, hN⟩ := hv
  subst hsz
  have hts := atoms_spec (ws := .code y cc nL ret :: gtbl) B.pre
  rw [lg_entry_eq]
  have hd : va_D (Aa G s.heap.size) (wc G M) := ⟨hD.1, fun k q hk => Or.inl ⟨k, by
    unfold wc at hk
    rw [mp_get] at hk
    cases hq : sh[k]? with
    | none => rw [hq] at hk; simp at hk
    | some z => exact (List.getElem?_eq_some_iff.mp hq).1, by
    unfold wc at hk
    rw [mp_get] at hk
    cases hq : sh[k]? with
    | none => rw [hq] at hk; simp at hk
    | some z => rw [hq] at hk; simp only [Option.map_some, Nat.zero_add, Option.some.injEq] at hk; rw [← hk]⟩⟩
  exact body p e s m below meth c _ ⟨⟨B.exec, B.bytes, hml, findClass_of_methodNamed B.named, fun w hw => hts w (List.mem_cons_of_mem _ hw)⟩, B.returns, B.notSynchronized, hK, hN⟩ (lv_entry As hlen) ⟨hP, hd, va_S.rf⟩
theorem ct_v {y : MethodName} {d : Nat} {As : List Value} {M' : Mm} (hy : plainName y.cls = true) (hlen : (lg_sl As).length ≤ nL)
    (body : ∀ (p : Program) (e : Env) (s : State) (m : MethodId) (below : List Frame) (meth : Method) (c : Code) (ls : Array Slot), Cx p m c meth cc nL s As.toArray y.cls none G → lv_has ls nL (lv_args 0 As) → Wo G s M s.heap [] →
      W p l e (rm d) s m As.toArray below meth c s.heap [] 0 0 (Qv below As.toArray s G M') (F0 m 0 ls [])) : CTv l y cc nL d G As M M' := by
  intro sz
  refine Met.ofW (cc := cc) (maxL := nL) (ret := none) hy rfl ?_
  intro p e s m args below meth c s₁ B hml hv
  obtain ⟨rfl, hsz, hP, hK, hD, hN⟩ := hv
  subst hsz
  have hts := atoms_spec (ws := .code y cc nL none :: gtbl) B.pre
  rw [lg_entry_eq]
  have hd : va_D (Aa G s.heap.size) (wc G M) := ⟨hD.1, fun k q hk => Or.inl ⟨k, by
    unfold wc at hk
    rw [mp_get] at hk
    cases hq : sh[k]? with
    | none => rw [hq] at hk; simp at hk
    | some z => exact (List.getElem?_eq_some_iff.mp hq).1, by
    unfold wc at hk
    rw [mp_get] at hk
    cases hq : sh[k]? with
    | none => rw [hq] at hk; simp at hk
    | some z => rw [hq] at hk; simp only [Option.map_some, Nat.zero_add, Option.some.injEq] at hk; rw [← hk]⟩⟩
  exact body p e s m below meth c _ ⟨⟨B.exec, B.bytes, hml, findClass_of_methodNamed B.named, fun w hw => hts w (List.mem_cons_of_mem _ hw)⟩, B.returns, B.notSynchronized, hK, hN⟩ (lv_entry As hlen) ⟨hP, hd, va_S.rf⟩
/-- a method's end -/
theorem rt_i (X : Cx p m c meth cc nL s args own (some .int) G) (hW : Wo G s M H locs) {v r : Int32} {M' : Mm} (h : some (v, M) = some (r, M')) (hdg : decode cc pc = .ok (.ireturn, 1)) : W p l e R s m args below meth c H locs 0 0 (Qi below args s G r M') (F0 m pc ls [.int v]) := by
  cases h
  exact W.iret X.1.1 X.1.2.1 X.2.1 (fun t ht hw => ⟨⟨v, M, rfl, ⟨rfl, rfl⟩, by rw [ht]; exact hW.1, va_K.moved hw.alike X.2.2.2.1, hW.2.1, X.2.2.2.2.warm hw⟩, hW.2.2.F ht⟩) hW.2.2.2.2 hdg X.2.2.1
theorem rt_z (X : Cx p m c meth cc nL s args own (some .boolean) G) (hW : Wo G s M H locs) {v r : Int32} {M' : Mm} (h : (if ¬ v &&& 1 = v then none else some (v, M)) = some (r, M')) (hdg : decode cc pc = .ok (.ireturn, 1)) : W p l e R s m args below meth c H locs 0 0 (Qi below args s G r M') (F0 m pc ls [.int v]) := by
  obtain ⟨h1, h⟩ := ob_gd h
  have h1 : v &&& 1 = v := Classical.not_not.mp h1
  cases h
  exact W.zret (ty := .boolean) X.1.1 X.1.2.1 X.2.1 (by simp only [narrow, h1]) (fun t ht hw => ⟨⟨v, M, rfl, ⟨rfl, rfl⟩, by rw [ht]; exact hW.1, va_K.moved hw.alike X.2.2.2.1, hW.2.1, X.2.2.2.2.warm hw⟩, hW.2.2.F ht⟩) hW.2.2.2.2 hdg X.2.2.1
theorem rt_v (X : Cx p m c meth cc nL s args own none G) (hW : Wo G s M H locs) {M' : Mm} (h : some M = some M') (hdg : decode cc pc = .ok (.return_, 1)) : W p l e R s m args below meth c H locs 0 0 (Qv below args s G M') (F0 m pc ls []) := by
  cases h
  exact W.vret X.1.1 X.1.2.1 X.2.1 (fun t ht hw => ⟨⟨M, rfl, rfl, by rw [ht]; exact hW.1, va_K.moved hw.alike X.2.2.2.1, hW.2.1, X.2.2.2.2.warm hw⟩, hW.2.2.F ht⟩) hW.2.2.2.2 hdg X.2.2.1
/-- fields -/
theorem bg_get (X : Cx p m c meth cc nL s args own ret G) (hW : Wo G s M H locs) {C : String} {T : u_T} {N ci index cN j : Nat} {fks : List (Option (Option Nat))} {fk : Option (Option Nat)} (hsh : sh[cN]? = some (.inr (.inl (ci, fks)))) (hin : ∀ w ∈ u_ws C T N, w ∈ gtbl) (hc : vwCl[ci]? = some (C, T, N)) (hj : j < N) (hlink : Cond.fieldLink own index C (T j).2.1 (T j).2.2.1 ∈ gtbl) (hC : (T j).1 = C) (hf : fks[j]? = some fk) (hdg : decode cc pc = .ok (.getfield index, 3))
    (kk : W p l e R s m args below meth c H locs cells slots Q (F0 m (pc + 3) ls (fkv G M cN j fk :: rest))) : W p l e R s m args below meth c H locs cells slots Q (F0 m pc ls (.ref (G.2.2.2 cN) :: rest)) :=
  va_get (D := G.1) (ci := ci) (v := fkv G M cN j fk) (C := C) (T := T) (N := N) (ref := C) X.1.1 X.1.2.1 X.1.2.2.2.2 hin X.1.2.2.2.1 X.2.2.2.1 hW.1 cN (wc_at hsh) hc j hj (X.1.2.2.2.2 _ hlink) (fun x h => hC ▸ h) (by rw [mp_get, hf]; simp only [Option.map_some, Nat.zero_add]) hdg kk
theorem bg_getN (X : Cx p m c meth cc nL s args own ret G) (hW : Wo G s M H locs) {C host : String} {T : u_T} {N ci index cN j : Nat} {fks : List (Option (Option Nat))} {fk : Option (Option Nat)} (hsh : sh[cN]? = some (.inr (.inl (ci, fks)))) (hin : ∀ w ∈ u_ws C T N, w ∈ gtbl) (hc : vwCl[ci]? = some (C, T, N)) (hj : j < N) (hlink : (own, index, C, (T j).2.1, (T j).2.2.1, host) ∈ nfs) (hC : (T j).1 = C) (hf : fks[j]? = some fk) (hdg : decode cc pc = .ok (.getfield index, 3))
    (kk : W p l e R s m args below meth c H locs cells slots Q (F0 m (pc + 3) ls (fkv G M cN j fk :: rest))) : W p l e R s m args below meth c H locs cells slots Q (F0 m pc ls (.ref (G.2.2.2 cN) :: rest)) :=
  va_getN (D := G.1) (ci := ci) (v := fkv G M cN j fk) (C := C) (T := T) (N := N) (ref := C) (host := host) X.1.1 X.1.2.1 X.1.2.2.2.2 hin X.1.2.2.2.1 X.2.2.2.1 hW.1 cN (wc_at hsh) hc j hj (va_Nw.use rfl (X.2.2.2.2.1 _ hlink)) (fun x h => hC ▸ h) (by rw [mp_get, hf]; simp only [Option.map_some, Nat.zero_add]) hdg kk
theorem bg_put (X : Cx p m c meth cc nL s args own ret G) (hW : Wo G s M H locs) {C : String} {T : u_T} {N ci index cN j : Nat} {fks : List (Option (Option Nat))} {v : Int32} (hsh : sh[cN]? = some (.inr (.inl (ci, fks)))) (hin : ∀ w ∈ u_ws C T N, w ∈ gtbl) (hc : vwCl[ci]? = some (C, T, N)) (ty0 : Nat → FieldType) (hty : ∀ k, k < N → parseFieldDescriptor (T k).2.2.1 = some (ty0 k)) (hnm : ∀ a, a < N → ∀ b, b < N → a ≠ b → (T a).2.1 ≠ (T b).2.1) (hj : j < N) (hlink : Cond.fieldLink own index C (T j).2.1 (T j).2.2.1 ∈ gtbl) (hC : (T j).1 = C) (hfin : (T j).2.2.2 = false) (hd : parseFieldDescriptor (T j).2.2.1 = some .int) (hf : fks[j]? = some none) (hdg : decode cc pc = .ok (.putfield index, 3))
    (kk : ∀ M1 : Mm, M1 = st M cN j v → ∀ (H1 : Heap) (locs1 : List Loc), Wo G s M1 H1 locs1 → W p l e R s m args below meth c H1 locs1 cells slots Q (F0 m (pc + 3) ls rest)) : W p l e R s m args below meth c H locs cells slots Q (F0 m pc ls (.int v :: .ref (G.2.2.2 cN) :: rest)) :=
  va_put (D := G.1) (ci := ci) (v := .int v) (ty := .int) (C := C) (T := T) (N := N) (ref := C) X.1.1 X.1.2.1 X.1.2.2.2.2 hin ty0 hty hnm X.1.2.2.2.1 X.2.2.2.1 hW.1 hW.2.1 hW.2.2 cN (wc_at hsh) hc j hj (X.1.2.2.2.2 _ hlink) (fun x h => hC ▸ h) hfin hd rfl rfl (by rw [mp_len]; exact (List.getElem?_eq_some_iff.mp hf).1) hdg (fun H1 locs1 hP hD hS => kk _ rfl H1 locs1 ⟨wc_st hsh hf ▸ hP, wc_st hsh hf ▸ hD, hS⟩)
theorem bg_putN (X : Cx p m c meth cc nL s args own ret G) (hW : Wo G s M H locs) {C host : String} {T : u_T} {N ci index cN j : Nat} {fks : List (Option (Option Nat))} {v : Int32} (hsh : sh[cN]? = some (.inr (.inl (ci, fks)))) (hin : ∀ w ∈ u_ws C T N, w ∈ gtbl) (hc : vwCl[ci]? = some (C, T, N)) (ty0 : Nat → FieldType) (hty : ∀ k, k < N → parseFieldDescriptor (T k).2.2.1 = some (ty0 k)) (hnm : ∀ a, a < N → ∀ b, b < N → a ≠ b → (T a).2.1 ≠ (T b).2.1) (hj : j < N) (hlink : (own, index, C, (T j).2.1, (T j).2.2.1, host) ∈ nfs) (hC : (T j).1 = C) (hfin : (T j).2.2.2 = false) (hd : parseFieldDescriptor (T j).2.2.1 = some .int) (hf : fks[j]? = some none) (hdg : decode cc pc = .ok (.putfield index, 3))
    (kk : ∀ M1 : Mm, M1 = st M cN j v → ∀ (H1 : Heap) (locs1 : List Loc), Wo G s M1 H1 locs1 → W p l e R s m args below meth c H1 locs1 cells slots Q (F0 m (pc + 3) ls rest)) : W p l e R s m args below meth c H locs cells slots Q (F0 m pc ls (.int v :: .ref (G.2.2.2 cN) :: rest)) :=
  va_putN (D := G.1) (ci := ci) (v := .int v) (ty := .int) (C := C) (T := T) (N := N) (ref := C) (host := host) X.1.1 X.1.2.1 X.1.2.2.2.2 hin ty0 hty hnm X.1.2.2.2.1 X.2.2.2.1 hW.1 hW.2.1 hW.2.2 cN (wc_at hsh) hc j hj (va_Nw.use rfl (X.2.2.2.2.1 _ hlink)) (fun x h => hC ▸ h) hfin hd rfl rfl (by rw [mp_len]; exact (List.getElem?_eq_some_iff.mp hf).1) hdg (fun H1 locs1 hP hD hS => kk _ rfl H1 locs1 ⟨wc_st hsh hf ▸ hP, wc_st hsh hf ▸ hD, hS⟩)
theorem bg_putL (X : Cx p m c meth cc nL s args own ret G) (hW : Wo G s M H locs) {C : String} {T : u_T} {N ci index cN j : Nat} {fks : List (Option (Option Nat))} {v : Int64} (hsh : sh[cN]? = some (.inr (.inl (ci, fks)))) (hin : ∀ w ∈ u_ws C T N, w ∈ gtbl) (hc : vwCl[ci]? = some (C, T, N)) (ty0 : Nat → FieldType) (hty : ∀ k, k < N → parseFieldDescriptor (T k).2.2.1 = some (ty0 k)) (hnm : ∀ a, a < N → ∀ b, b < N → a ≠ b → (T a).2.1 ≠ (T b).2.1) (hj : j < N) (hlink : Cond.fieldLink own index C (T j).2.1 (T j).2.2.1 ∈ gtbl) (hC : (T j).1 = C) (hfin : (T j).2.2.2 = false) (hd : parseFieldDescriptor (T j).2.2.1 = some .long) (hf : fks[j]? = some (some none)) (hdg : decode cc pc = .ok (.putfield index, 3))
    (kk : ∀ M1 : Mm, M1 = stl M cN j v → ∀ (H1 : Heap) (locs1 : List Loc), Wo G s M1 H1 locs1 → W p l e R s m args below meth c H1 locs1 cells slots Q (F0 m (pc + 3) ls rest)) : W p l e R s m args below meth c H locs cells slots Q (F0 m pc ls (.long v :: .ref (G.2.2.2 cN) :: rest)) :=
  va_put (D := G.1) (ci := ci) (v := .long v) (ty := .long) (C := C) (T := T) (N := N) (ref := C) X.1.1 X.1.2.1 X.1.2.2.2.2 hin ty0 hty hnm X.1.2.2.2.1 X.2.2.2.1 hW.1 hW.2.1 hW.2.2 cN (wc_at hsh) hc j hj (X.1.2.2.2.2 _ hlink) (fun x h => hC ▸ h) hfin hd rfl rfl (by rw [mp_len]; exact (List.getElem?_eq_some_iff.mp hf).1) hdg (fun H1 locs1 hP hD hS => kk _ rfl H1 locs1 ⟨wc_stl hsh hf ▸ hP, wc_stl hsh hf ▸ hD, hS⟩)
/-- rows -/
theorem bg_ald (X : Cx p m c meth cc nL s args own ret G) (hW : Wo G s M H locs) {cN n : Nat} {i : Int32} (hsh : sh[cN]? = some (.inl n)) (hin : vp_in i n) (hdg : decode cc pc = .ok (.iaload, 1))
    (kk : W p l e R s m args below meth c H locs cells slots Q (F0 m (pc + 1) ls (.int (M.1 cN i.toNatClampNeg) :: rest))) : W p l e R s m args below meth c H locs cells slots Q (F0 m pc ls (.int i :: .ref (G.2.2.2 cN) :: rest)) :=
  va_iald X.1.1 X.1.2.1 X.2.2.2.1 hW.1 cN 0 (wc_at hsh) rfl hin hdg kk
theorem bg_ast (X : Cx p m c meth cc nL s args own ret G) (hW : Wo G s M H locs) {cN n : Nat} {i x : Int32} (hsh : sh[cN]? = some (.inl n)) (hin : vp_in i n) (hdg : decode cc pc = .ok (.iastore, 1))
    (kk : ∀ M1 : Mm, M1 = st M cN i.toNatClampNeg x → ∀ (H1 : Heap) (locs1 : List Loc), Wo G s M1 H1 locs1 → W p l e R s m args below meth c H1 locs1 cells slots Q (F0 m (pc + 1) ls rest)) : W p l e R s m args below meth c H locs cells slots Q (F0 m pc ls (.int x :: .int i :: .ref (G.2.2.2 cN) :: rest)) :=
  va_iast X.1.1 X.1.2.1 X.2.2.2.1 hW.1 hW.2.1 hW.2.2 cN 0 (wc_at hsh) rfl hin hdg (fun H1 locs1 hP hD hS => kk _ rfl H1 locs1 ⟨wc_sa hsh ▸ hP, wc_sa hsh ▸ hD, hS⟩)
theorem bg_len (X : Cx p m c meth cc nL s args own ret G) (hW : Wo G s M H locs) {cN n : Nat} (hsh : sh[cN]? = some (.inl n)) (hdg : decode cc pc = .ok (.arraylength, 1))
    (kk : W p l e R s m args below meth c H locs cells slots Q (F0 m (pc + 1) ls (.int (nI n) :: rest))) : W p l e R s m args below meth c H locs cells slots Q (F0 m pc ls (.ref (G.2.2.2 cN) :: rest)) :=
  va_alen X.1.1 X.1.2.1 X.2.2.2.1 hW.1 cN 0 (wc_at hsh) (ty := .int) rfl rfl hdg kk
theorem bg_lenP (X : Cx p m c meth cc nL s args own ret G) (hW : Wo G s M H locs) (hdg : decode cc pc = .ok (.arraylength, 1))
    (kk : W p l e R s m args below meth c H locs cells slots Q (F0 m (pc + 1) ls (.int (nI 9) :: rest))) : W p l e R s m args below meth c H locs cells slots Q (F0 m pc ls (.ref (G.2.2.2 19) :: rest)) :=
  va_alen X.1.1 X.1.2.1 X.2.2.2.1 hW.1 19 1 (wc_at (k := .inr (.inr [20, 21, 22, 23, 24, 25, 26, 27, 28])) rfl) (ty := .object RX3) rfl rfl hdg kk
theorem pk_cell {i : Nat} (h : i < 9) : ([20, 21, 22, 23, 24, 25, 26, 27, 28] : List Nat)[i]? = some (20 + i) := by
  match i, h with
  | 0, _ => rfl
  | 1, _ => rfl
  | 2, _ => rfl
  | 3, _ => rfl
  | 4, _ => rfl
  | 5, _ => rfl
  | 6, _ => rfl
  | 7, _ => rfl
  | 8, _ => rfl
theorem pk_sh {i : Nat} (h : i < 9) : sh[20 + i]? = some skX3 := by
  match i, h with
  | 0, _ => rfl
  | 1, _ => rfl
  | 2, _ => rfl
  | 3, _ => rfl
  | 4, _ => rfl
  | 5, _ => rfl
  | 6, _ => rfl
  | 7, _ => rfl
  | 8, _ => rfl
theorem vp_lt {i : Int32} {n : Nat} (h : vp_in i n) : i.toNatClampNeg < n := Nat.not_le.mp fun q => h (Or.inr q)
theorem bg_aldP (X : Cx p m c meth cc nL s args own ret G) (hW : Wo G s M H locs) {i : Int32} (hin : vp_in i 9) (hdg : decode cc pc = .ok (.aaload, 1))
    (kk : W p l e R s m args below meth c H locs cells slots Q (F0 m (pc + 1) ls (.ref (G.2.2.2 (20 + i.toNatClampNeg)) :: rest))) : W p l e R s m args below meth c H locs cells slots Q (F0 m pc ls (.int i :: .ref (G.2.2.2 19) :: rest)) := by
  refine va_aldq X.1.1 X.1.2.1 X.2.2.2.1 hW.1 19 1 (wc_at (k := .inr (.inr [20, 21, 22, 23, 24, 25, 26, 27, 28])) rfl) rfl hin hdg ?_
  rw [pk_cell (vp_lt hin)]
  exact kk
/-- calls -/
theorem bg_calli (X : Cx p m c meth cc nL s args own ret G) (hW : Wo G s M H locs) {y : MethodName} {cc' : ByteArray} {nL' d index cN ci N n : Nat} {ret' : Option FieldType} {C : String} {T : u_T} {fks : List (Option (Option Nat))} {As st0 : List Value} {r : Int32} {M' : Mm} (hM : CTi l y cc' nL' ret' d G (.ref (G.2.2.2 cN) :: As) M r M') (hsh : sh[cN]? = some (.inr (.inl (ci, fks)))) (hc : vwCl[ci]? = some (C, T, N)) (hw : ∀ w ∈ wsV own index C y (.code y cc' nL' ret' :: gtbl), w ∈ gtbl) (hd : y.cls = C ∧ y.cls ≠ "java/lang/invoke/MethodHandle" ∧ y.cls ≠ "java/lang/invoke/VarHandle" ∧ (parseMethodDescriptor y.desc).map (fun d => d.parameters.length) = some n) (hn : As.length = n) (hst : st0 = As.reverse ++ .ref (G.2.2.2 cN) :: rest) (hR : d + 1 ≤ R.frames ∧ 8 + (nL' + 11) + 48 * d ≤ R.locals) (hcs : cells + 0 ≤ R.cells ∧ slots + 0 ≤ R.slots) (hl : ls.size = nL) (hr : (rest.map fun v => v.category).sum ≤ 8) (hdg : decode cc pc = .ok (.invokevirtual index, 3))
    (kk : ∀ (H1 : Heap) (locs1 : List Loc), Wo G s M' H1 locs1 → W p l e R s m args below meth c H1 locs1 cells slots Q (F0 m (pc + 3) ls (.int r :: rest))) : W p l e R s m args below meth c H locs cells slots Q (F0 m pc ls st0) := by
  subst hst
  refine va_calli (va_runV (As := As) (rest := rest) X.1 (hM H.size) (cwV n X.1.2.2.2.2 (gt_goodIn hw) rfl rfl rfl hd hR) ⟨Wd.blind, va_recv X.2.2.2.1 hW.1 hc (wc_at hsh), hW.pre X.2.2.2.1 X.2.2.2.2 _⟩ rfl hn hl rfl (lv_room hr) hdg hcs) hW.2.2 (fun q _ h => Aa.mono hW.2.2.1 h) (fun q h => Aa.mono hW.2.2.1 h) (fun r2 u t H1 locs1 ht hvm hw hB hz1 hk1 hS => ?_)
  obtain ⟨rfl, rfl⟩ := hw
  exact kk H1 locs1 (hW.post ht hB hS)
theorem bg_callv (X : Cx p m c meth cc nL s args own ret G) (hW : Wo G s M H locs) {y : MethodName} {cc' : ByteArray} {nL' d index cN ci N n : Nat} {C : String} {T : u_T} {fks : List (Option (Option Nat))} {As st0 : List Value} {M' : Mm} (hM : CTv l y cc' nL' d G (.ref (G.2.2.2 cN) :: As) M M') (hsh : sh[cN]? = some (.inr (.inl (ci, fks)))) (hc : vwCl[ci]? = some (C, T, N)) (hw : ∀ w ∈ wsV own index C y (.code y cc' nL' none :: gtbl), w ∈ gtbl) (hd : y.cls = C ∧ y.cls ≠ "java/lang/invoke/MethodHandle" ∧ y.cls ≠ "java/lang/invoke/VarHandle" ∧ (parseMethodDescriptor y.desc).map (fun d => d.parameters.length) = some n) (hn : As.length = n) (hst : st0 = As.reverse ++ .ref (G.2.2.2 cN) :: rest) (hR : d + 1 ≤ R.frames ∧ 8 + (nL' + 11) + 48 * d ≤ R.locals) (hcs : cells + 0 ≤ R.cells ∧ slots + 0 ≤ R.slots) (hl : ls.size = nL) (hr : (rest.map fun v => v.category).sum ≤ 8) (hdg : decode cc pc = .ok (.invokevirtual index, 3))
    (kk : ∀ (H1 : Heap) (locs1 : List Loc), Wo G s M' H1 locs1 → W p l e R s m args below meth c H1 locs1 cells slots Q (F0 m (pc + 3) ls rest)) : W p l e R s m args below meth c H locs cells slots Q (F0 m pc ls st0) := by
  subst hst
  refine va_callv (va_runV (As := As) (rest := rest) X.1 (hM H.size) (cwV n X.1.2.2.2.2 (gt_goodIn hw) rfl rfl rfl hd hR) ⟨Wd.blind, va_recv X.2.2.2.1 hW.1 hc (wc_at hsh), hW.pre X.2.2.2.1 X.2.2.2.2 _⟩ rfl hn hl rfl (lv_room hr) hdg hcs) hW.2.2 (fun q _ h => Aa.mono hW.2.2.1 h) (fun q h => Aa.mono hW.2.2.1 h) (fun u t H1 locs1 ht hvm hw hB hz1 hk1 hS => ?_)
  subst hw
  exact kk H1 locs1 (hW.post ht hB hS)
theorem bg_calls (X : Cx p m c meth cc nL s args own ret G) (hW : Wo G s M H locs) {y : MethodName} {cc' : ByteArray} {nL' d index n : Nat} {ret' : Option FieldType} {As st0 : List Value} {r : Int32} {M' : Mm} (hM : CTi l y cc' nL' ret' d G As M r M') (hw : ∀ w ∈ va_wsS own index y (.code y cc' nL' ret' :: gtbl), w ∈ gtbl) (hd : y.cls ≠ "java/lang/invoke/MethodHandle" ∧ y.cls ≠ "java/lang/invoke/VarHandle" ∧ (parseMethodDescriptor y.desc).map (fun d => d.parameters.length) = some n) (hn : As.length = n) (hst : st0 = As.reverse ++ rest) (hR : d + 1 ≤ R.frames ∧ 8 + (nL' + 11) + 48 * d ≤ R.locals) (hcs : cells + 0 ≤ R.cells ∧ slots + 0 ≤ R.slots) (hl : ls.size = nL) (hr : (rest.map fun v => v.category).sum ≤ 8) (hdg : decode cc pc = .ok (.invokestatic index, 3))
    (kk : ∀ (H1 : Heap) (locs1 : List Loc), Wo G s M' H1 locs1 → W p l e R s m args below meth c H1 locs1 cells slots Q (F0 m (pc + 3) ls (.int r :: rest))) : W p l e R s m args below meth c H locs cells slots Q (F0 m pc ls st0) := by
  subst hst
  refine va_calli (va_runS (As := As) (rest := rest) X.1 (hM H.size) (va_cwS n X.1.2.2.2.2 (gt_goodIn hw) rfl rfl rfl hd hR) ⟨Wd.blind, hW.pre X.2.2.2.1 X.2.2.2.2 _⟩ rfl hn hl rfl (lv_room hr) hdg hcs) hW.2.2 (fun q _ h => Aa.mono hW.2.2.1 h) (fun q h => Aa.mono hW.2.2.1 h) (fun r2 u t H1 locs1 ht hvm hw hB hz1 hk1 hS => ?_)
  obtain ⟨rfl, rfl⟩ := hw
  exact kk H1 locs1 (hW.post ht hB hS)
theorem ws_V {C : String} {y : MethodName} {index : Nat} {x : Cond} (h1 : Cond.methodLink own index y ∈ gtbl) (h2 : Cond.instanceMethod y ∈ gtbl) (h3 : Cond.selects C y y ∈ gtbl) (h4 : Cond.initialized C ∈ gtbl) (h5 : x ∈ gtbl) : ∀ w ∈ wsV own index C y (x :: gtbl), w ∈ gtbl := by
  intro w hw
  simp only [wsV, List.cons_append, List.nil_append, List.mem_cons] at hw
  rcases hw with rfl | rfl | rfl | rfl | rfl | hw <;> assumption
theorem ws_S {y : MethodName} {index : Nat} {x : Cond} (h1 : Cond.methodLink own index y ∈ gtbl) (h2 : Cond.static y ∈ gtbl) (h4 : Cond.initialized y.cls ∈ gtbl) (h5 : x ∈ gtbl) : ∀ w ∈ va_wsS own index y (x :: gtbl), w ∈ gtbl := by
  intro w hw
  simp only [va_wsS, List.cons_append, List.nil_append, List.mem_cons] at hw
  rcases hw with rfl | rfl | rfl | rfl | hw <;> assumption
/-- the library's own -/
theorem bg_max (X : Cx p m c meth cc nL s args own ret G) {index : Nat} {x y : Int32} (h1 : Cond.methodLink own index Lib.Math.max.name ∈ gtbl) (h2 : Cond.static Lib.Math.max.name ∈ gtbl) (h3 : Cond.initialized "java/lang/Math" ∈ gtbl) (h4 : Cond.code Lib.Math.max.name Lib.Math.max.code 2 (some .int) ∈ gtbl) (hl : ls.size = nL) (hf : 1 ≤ R.frames) (hr : (rest.map fun v => v.category).sum + 13 ≤ R.locals) (hcs : cells ≤ R.cells ∧ slots ≤ R.slots) (hdg : decode cc pc = .ok (.invokestatic index, 3))
    (kk : W p l e R s m args below meth c H locs cells slots Q (F0 m (pc + 3) ls (.int (if x < y then y else x) :: rest))) : W p l e R s m args below meth c H locs cells slots Q (F0 m pc ls (.int y :: .int x :: rest)) :=
  va_mmax X.1.1 X.1.2.1 (X.1.2.2.1.trans hl.symm) X.1.2.2.2.1 (X.1.2.2.2.2 _ h1) (X.1.2.2.2.2 _ h2) (X.1.2.2.2.2 _ h3) (X.1.2.2.2.2 _ h4) hf hr hcs.1 hcs.2 hdg kk
theorem bg_min (X : Cx p m c meth cc nL s args own ret G) {index : Nat} {x y : Int32} (h1 : Cond.methodLink own index Lib.Math.min.name ∈ gtbl) (h2 : Cond.static Lib.Math.min.name ∈ gtbl) (h3 : Cond.initialized "java/lang/Math" ∈ gtbl) (h4 : Cond.code Lib.Math.min.name Lib.Math.min.code 2 (some .int) ∈ gtbl) (hl : ls.size = nL) (hf : 1 ≤ R.frames) (hr : (rest.map fun v => v.category).sum + 13 ≤ R.locals) (hcs : cells ≤ R.cells ∧ slots ≤ R.slots) (hdg : decode cc pc = .ok (.invokestatic index, 3))
    (kk : W p l e R s m args below meth c H locs cells slots Q (F0 m (pc + 3) ls (.int (if y < x then y else x) :: rest))) : W p l e R s m args below meth c H locs cells slots Q (F0 m pc ls (.int y :: .int x :: rest)) :=
  va_mmin X.1.1 X.1.2.1 (X.1.2.2.1.trans hl.symm) X.1.2.2.2.1 (X.1.2.2.2.2 _ h1) (X.1.2.2.2.2 _ h2) (X.1.2.2.2.2 _ h3) (X.1.2.2.2.2 _ h4) hf hr hcs.1 hcs.2 hdg kk
/-- what System.arraycopy asks -/
def cp_bad (sp dp n : Int32) (n0 n1 : Nat) : Prop := sp < 0 ∨ dp < 0 ∨ n < 0 ∨ n0 < sp.toNatClampNeg + n.toNatClampNeg ∨ n1 < dp.toNatClampNeg + n.toNatClampNeg
theorem bg_copy (X : Cx p m c meth cc nL s args own ret G) (hW : Wo G s M H locs) {index c0 c1 n0 n1 : Nat} {sp dp n : Int32} (h1 : Cond.methodLink own index arraycopyName ∈ gtbl) (h2 : Cond.native arraycopyName ∈ gtbl) (h3 : Cond.static arraycopyName ∈ gtbl) (h4 : Cond.initialized "java/lang/System" ∈ gtbl) (hs0 : sh[c0]? = some (.inl n0)) (hs1 : sh[c1]? = some (.inl n1)) (hin : ¬ (sp < 0 ∨ dp < 0 ∨ n < 0 ∨ n0 < sp.toNatClampNeg + n.toNatClampNeg ∨ n1 < dp.toNatClampNeg + n.toNatClampNeg)) (hl : ls.size = nL) (hf : 1 ≤ R.frames) (hr : (rest.map fun v => v.category).sum + (nativeFrameWords "java/lang/System" "arraycopy" 5 + 11) ≤ R.locals) (hdg : decode cc pc = .ok (.invokestatic index, 3))
    (kk : ∀ M1 : Mm, M1 = sa M c1 (va_cpy (M.1 c0) (M.1 c1) sp.toNatClampNeg dp.toNatClampNeg n.toNatClampNeg) → ∀ (H1 : Heap) (locs1 : List Loc), Wo G s M1 H1 locs1 → W p l e R s m args below meth c H1 locs1 cells slots Q (F0 m (pc + 3) ls rest)) : W p l e R s m args below meth c H locs cells slots Q (F0 m pc ls (.int n :: .int dp :: .ref (G.2.2.2 c1) :: .int sp :: .ref (G.2.2.2 c0) :: rest)) := by
  simp only [not_or, Nat.not_lt] at hin
  obtain ⟨a1, a2, a3, a4, a5⟩ := hin
  exact va_copyi X.1.1 X.1.2.1 (X.1.2.2.1.trans hl.symm) X.1.2.2.2.1 (X.1.2.2.2.2 _ h1) (X.1.2.2.2.2 _ h2) (X.1.2.2.2.2 _ h3) (X.1.2.2.2.2 _ h4) X.2.2.2.1 hW.1 hW.2.1 hW.2.2 c0 c1 0 0 (wc_at hs0) (wc_at hs1) (ty := .int) rfl rfl rfl a1 a2 a3 a4 a5 (fun i _ => rfl) hf hr hdg (fun H1 locs1 hP hD hS => kk _ rfl H1 locs1 ⟨wc_sa hs1 ▸ hP, wc_sa hs1 ▸ hD, hS⟩)
end BK
