abbrev Mm : Type := (Nat → Nat → Int32) × (Nat → Nat → Int64)
abbrev Sk : Type := Nat ⊕ ((Nat × List (Option (Option Nat))) ⊕ List Nat)
abbrev Gg : Type := va_G × ClassId × ClassId × (Nat → Nat)
def mp {α β : Type} (f : Nat → α → β) : Nat → List α → List β
  | _, [] => []
  | i, x :: xs => f i x :: mp f (i + 1) xs
theorem mp_get {α β : Type} (f : Nat → α → β) : ∀ (l : List α) (i k : Nat), (mp f i l)[k]? = (l[k]?).map (f (i + k))
  | [], i, k => by simp [mp]
  | x :: xs, i, 0 => by simp [mp]
  | x :: xs, i, k + 1 => by
    simp only [mp, List.getElem?_cons_succ]
    rw [mp_get f xs (i + 1) k, show i + 1 + k = i + (k + 1) by omega]
theorem mp_ext {α β : Type} {f g : Nat → α → β} : ∀ (l : List α) (i : Nat), (∀ j y, i ≤ j → g j y = f j y) → mp f i l = mp g i l
  | [], _, _ => rfl
  | x :: xs, i, h => by
    simp only [mp]
    rw [h i x (Nat.le_refl i), mp_ext xs (i + 1) (fun j y hj => h j y (by omega))]
theorem mp_set {α β : Type} {f g : Nat → α → β} {v : β} {x : α} : ∀ (l : List α) (i k : Nat), l[k]? = some x → g (i + k) x = v → (∀ j y, j ≠ i + k → g j y = f j y) → (mp f i l).set k v = mp g i l
  | [], i, k, h, _, _ => by simp at h
  | y :: ys, i, 0, h, hv, ho => by
    simp only [List.getElem?_cons_zero, Option.some.injEq] at h
    subst h
    simp only [mp, List.set_cons_zero]
    rw [← hv, mp_ext ys (i + 1) (fun j z hj => ho j z (by omega))]
    rfl
  | y :: ys, i, k + 1, h, hv, ho => by
    simp only [List.getElem?_cons_succ] at h
    simp only [mp, List.set_cons_succ]
    rw [mp_set ys (i + 1) k h (by rw [← hv]; congr 1; omega) (fun j z hj => ho j z (by omega)), ho i y (by omega)]
theorem mp_len {α β : Type} (f : Nat → α → β) : ∀ (l : List α) (i : Nat), (mp f i l).length = l.length
  | [], _ => rfl
  | x :: xs, i => by simp only [mp, List.length_cons, mp_len f xs]
def sa (M : Mm) (c : Nat) (f : Nat → Int32) : Mm := (fun x => if x = c then f else M.1 x, M.2)
def st (M : Mm) (c j : Nat) (v : Int32) : Mm := sa M c (upd (M.1 c) j v)
def stl (M : Mm) (c j : Nat) (v : Int64) : Mm := (M.1, fun x => if x = c then vp_updL (M.2 c) j v else M.2 x)
def lt_ {α β : Sort _} (e : α) (k : α → β) : β := k e
theorem ob_lt {α β : Sort _} {x e : α} {k : α → β} {z : β} (hx : x = e) (h : lt_ e k = z) : k x = z := by subst hx; exact h
theorem ob_pos {α : Sort _} {c : Prop} {inst : Decidable c} {x y z : α} (hc : c) (h : @ite α c inst x y = z) : x = z := by rw [if_pos hc] at h; exact h
theorem ob_neg {α : Sort _} {c : Prop} {inst : Decidable c} {x y z : α} (hc : ¬ c) (h : @ite α c inst x y = z) : y = z := by rw [if_neg hc] at h; exact h
theorem ob_gd {α : Type _} {c : Prop} {inst : Decidable c} {k : Option α} {z : α} (h : @ite (Option α) c inst none k = some z) : ¬ c ∧ k = some z := by
  by_cases hc : c
  · rw [if_pos hc] at h; cases h
  · rw [if_neg hc] at h; exact ⟨hc, h⟩
theorem ob_bind {α β : Type _} {x : Option α} {f : α → Option β} {z : β} (h : Option.bind x f = some z) : ∃ q, x = some q ∧ f q = some z := by
  cases x with
  | none => cases h
  | some q => exact ⟨q, rfl, h⟩
def skX0 (o : Nat) : Sk := .inr (.inl (0, [some (some (o + 1)), none, some (some (o + 2)), none]))
def skX1 : Sk := .inr (.inl (1, [some (some 10), some (some 11), some (some 12), some (some 13), some (some 14), none]))
def skX2 : Sk := .inr (.inl (2, [some (some 1), some none]))
def skX3 : Sk := .inr (.inl (3, [none, none, none, none, none]))
def skX4 : Sk := .inr (.inl (4, [some (some 1), some (some 6), some (some 9), some (some 15), some (some 19), some (some 29), none, none, none, none, none, none, none, none, none, none, none, none]))
def skX5 : Sk := .inr (.inl (5, [some (some 16), some (some 17), some (some 18), none, none]))
def skX6 : Sk := .inr (.inl (6, [some (some 1), some (some 4), some (some 5), some (some 30)]))
def skX7 : Sk := .inr (.inl (7, [some none, some (some 32), none, some (some 33), none, none, none, none, none, none, none, none, none, none, none, some (some 34), some (some 35), some (some 36), some (some 37), some (some 38), some (some 39), some (some 40), some (some 41), some (some 42), some (some 43), some (some 44), some (some 45), some (some 46), some (some 47), some (some 48), some (some 49)]))
/-- the world: the class's cells 0 .. 30, the reference's 31 .. 49 -/
def sh : List Sk := [skX6, skX0 1, .inl 1200, .inl 1200, skX2, skX4, skX0 6, .inl 4000, .inl 0, skX1, .inl 600, .inl 600, .inl 600, .inl 600, .inl 600, skX5, .inl 8, .inl 8, .inl 8, .inr (.inr [20, 21, 22, 23, 24, 25, 26, 27, 28]), skX3, skX3, skX3, skX3, skX3, skX3, skX3, skX3, skX3, .inl 600, .inl 600,
  skX7, .inl 1200, .inl 4000, .inl 10, .inl 10, .inl 10, .inl 10, .inl 10, .inl 6000, .inl 10, .inl 10, .inl 10, .inl 600, .inl 600, .inl 600, .inl 600, .inl 8, .inl 1200, .inl 601]
def fkv (G : Gg) (M : Mm) (c j : Nat) (k : Option (Option Nat)) : Value := match k with
  | none => .int (M.1 c j)
  | some none => .long (M.2 c j)
  | some (some d) => .ref (G.2.2.2 d)
def ent (G : Gg) (M : Mm) (c : Nat) (k : Sk) : va_E := match k with
  | .inl n => .inl (G.2.1, n, .inl (M.1 c))
  | .inr (.inl o) => .inr (o.1, mp (fkv G M c) 0 o.2)
  | .inr (.inr cs) => .inl (G.2.2.1, cs.length, .inr (.inr (.inr (.inr (fun i => (cs[i]?).map G.2.2.2)))))
def wc (G : Gg) (M : Mm) : va_W := mp (fun c k => (G.2.2.2 c, ent G M c k)) 0 sh
theorem fkv_congr {G : Gg} {M M1 : Mm} {d j : Nat} (h1 : M1.1 d = M.1 d) (h2 : M1.2 d = M.2 d) (k : Option (Option Nat)) : fkv G M1 d j k = fkv G M d j k := by
  rcases k with _ | _ | k <;> simp only [fkv, h1, h2]
theorem ent_congr {G : Gg} {M M1 : Mm} {d : Nat} (h1 : M1.1 d = M.1 d) (h2 : M1.2 d = M.2 d) (k : Sk) : ent G M1 d k = ent G M d k := by
  rcases k with n | o | cs
  · simp only [ent, h1]
  · simp only [ent]
    rw [mp_ext o.2 0 (fun j y _ => (fkv_congr h1 h2 y).symm)]
  · rfl
theorem wc_at {G : Gg} {M : Mm} {c : Nat} {k : Sk} (h : sh[c]? = some k) : (wc G M)[c]? = some (G.2.2.2 c, ent G M c k) := by
  unfold wc
  rw [mp_get, h]
  simp only [Option.map_some, Nat.zero_add]
theorem wc_set {G : Gg} {M M1 : Mm} {c : Nat} {k : Sk} {v : va_E} (h : sh[c]? = some k) (hv : ent G M1 c k = v) (ho : ∀ d, d ≠ c → M1.1 d = M.1 d ∧ M1.2 d = M.2 d) : (wc G M).set c (G.2.2.2 c, v) = wc G M1 := by
  unfold wc
  refine mp_set sh 0 c h (by rw [Nat.zero_add, hv]) (fun j y hj => ?_)
  have hq := ho j (by omega)
  rw [ent_congr hq.1 hq.2 y]
theorem sa_at {M : Mm} {c : Nat} {f : Nat → Int32} : (sa M c f).1 c = f := by simp [sa]
theorem sa_ne {M : Mm} {c d : Nat} {f : Nat → Int32} (h : d ≠ c) : (sa M c f).1 d = M.1 d := by simp [sa, h]
theorem sa_2 {M : Mm} {c : Nat} {f : Nat → Int32} : (sa M c f).2 = M.2 := rfl
theorem wc_st {G : Gg} {M : Mm} {c j ci : Nat} {v : Int32} {fks : List (Option (Option Nat))} (h : sh[c]? = some (.inr (.inl (ci, fks)))) (hf : fks[j]? = some none) : (wc G M).set c (G.2.2.2 c, .inr (ci, (mp (fkv G M c) 0 fks).set j (.int v))) = wc G (st M c j v) := by
  refine wc_set h ?_ (fun d hd => ⟨sa_ne hd, rfl⟩)
  simp only [ent]
  rw [mp_set (g := fkv G (st M c j v) c) fks 0 j hf ?_ ?_]
  · simp only [fkv, st, sa_at, upd, Nat.zero_add, if_true]
  · intro i y hi
    rcases y with _ | _ | y
    · simp only [fkv, st, sa_at, upd]
      rw [if_neg (by omega)]
    · rfl
    · rfl
theorem wc_stl {G : Gg} {M : Mm} {c j ci : Nat} {v : Int64} {fks : List (Option (Option Nat))} (h : sh[c]? = some (.inr (.inl (ci, fks)))) (hf : fks[j]? = some (some none)) : (wc G M).set c (G.2.2.2 c, .inr (ci, (mp (fkv G M c) 0 fks).set j (.long v))) = wc G (stl M c j v) := by
  refine wc_set h ?_ (fun d hd => ⟨rfl, by simp [stl, hd]⟩)
  simp only [ent]
  rw [mp_set (g := fkv G (stl M c j v) c) fks 0 j hf ?_ ?_]
  · simp only [fkv, stl, vp_updL, Nat.zero_add, if_true]
  · intro i y hi
    rcases y with _ | _ | y
    · rfl
    · simp only [fkv, stl, vp_updL, if_true]
      rw [if_neg (by omega)]
    · rfl
theorem wc_sa {G : Gg} {M : Mm} {c n : Nat} {f : Nat → Int32} (h : sh[c]? = some (.inl n)) : (wc G M).set c (G.2.2.2 c, .inl (G.2.1, n, .inl f)) = wc G (sa M c f) := by
  refine wc_set h ?_ (fun d hd => ⟨sa_ne hd, rfl⟩)
  simp only [ent, sa_at]
