def Fc (M M1 : Mm) : Prop := ∀ c, 31 ≤ c → M1.1 c = M.1 c ∧ M1.2 c = M.2 c
def Fr (M M1 : Mm) : Prop := ∀ c, c < 31 → M1.1 c = M.1 c ∧ M1.2 c = M.2 c
theorem Fc.rf {M : Mm} : Fc M M := fun _ _ => ⟨rfl, rfl⟩
theorem Fr.rf {M : Mm} : Fr M M := fun _ _ => ⟨rfl, rfl⟩
theorem Fc.tr {A B C : Mm} (h : Fc A B) (k : Fc B C) : Fc A C := fun c hc => ⟨(k c hc).1.trans (h c hc).1, (k c hc).2.trans (h c hc).2⟩
theorem Fr.tr {A B C : Mm} (h : Fr A B) (k : Fr B C) : Fr A C := fun c hc => ⟨(k c hc).1.trans (h c hc).1, (k c hc).2.trans (h c hc).2⟩
/-- a memory that differs in one cell -/
def Ds (M M1 : Mm) (c : Nat) : Prop := ∀ d, d ≠ c → M1.1 d = M.1 d ∧ M1.2 d = M.2 d
theorem ds_sa {M : Mm} {c : Nat} {f : Nat → Int32} : Ds M (sa M c f) c := fun _ hd => ⟨sa_ne hd, rfl⟩
theorem ds_st {M : Mm} {c j : Nat} {v : Int32} : Ds M (st M c j v) c := ds_sa
theorem ds_stl {M : Mm} {c j : Nat} {v : Int64} : Ds M (stl M c j v) c := fun d hd => ⟨rfl, by simp [stl, hd]⟩
theorem Fc.d {A B C : Mm} {c : Nat} (h : Fc A B) (k : Ds B C c) (hc : c < 31) : Fc A C := h.tr fun d hd => k d (by omega)
theorem Fr.d {A B C : Mm} {c : Nat} (h : Fr A B) (k : Ds B C c) (hc : 31 ≤ c) : Fr A C := h.tr fun d hd => k d (by omega)
theorem Fc.s1 {A B C : Mm} {c j : Nat} {v : Int32} (h : Fc A B) (e : C = st B c j v) (hc : c < 31) : Fc A C := h.d (by rw [e]; exact ds_st) hc
theorem Fr.s1 {A B C : Mm} {c j : Nat} {v : Int32} (h : Fr A B) (e : C = st B c j v) (hc : 31 ≤ c) : Fr A C := h.d (by rw [e]; exact ds_st) hc
theorem Fc.s2 {A B C : Mm} {c j : Nat} {v : Int64} (h : Fc A B) (e : C = stl B c j v) (hc : c < 31) : Fc A C := h.d (by rw [e]; exact ds_stl) hc
theorem Fr.s2 {A B C : Mm} {c j : Nat} {v : Int64} (h : Fr A B) (e : C = stl B c j v) (hc : 31 ≤ c) : Fr A C := h.d (by rw [e]; exact ds_stl) hc
theorem Fc.s3 {A B C : Mm} {c : Nat} {f : Nat → Int32} (h : Fc A B) (e : C = sa B c f) (hc : c < 31) : Fc A C := h.d (by rw [e]; exact ds_sa) hc
theorem ob_lx {α β : Sort _} {e : α} {k : α → β} {z : β} (h : lt_ e k = z) : ∃ x, x = e ∧ k x = z := ⟨e, rfl, h⟩
theorem ob_ite {α : Sort _} {c : Prop} {inst : Decidable c} {x y z : α} (h : @ite α c inst x y = z) : (c ∧ x = z) ∨ (¬ c ∧ y = z) := by
  by_cases hc : c
  · rw [if_pos hc] at h; exact Or.inl ⟨hc, h⟩
  · rw [if_neg hc] at h; exact Or.inr ⟨hc, h⟩
theorem Fc.retv {A B C : Mm} (h : Fc A B) (e : some B = some C) : Fc A C := by cases e; exact h
theorem Fr.retv {A B C : Mm} (h : Fr A B) (e : some B = some C) : Fr A C := by cases e; exact h
theorem Fc.reti {A B C : Mm} {v r : Int32} (h : Fc A B) (e : some (v, B) = some (r, C)) : Fc A C := by cases e; exact h
theorem Fr.reti {A B C : Mm} {v r : Int32} (h : Fr A B) (e : some (v, B) = some (r, C)) : Fr A C := by cases e; exact h
theorem Fc.retz {A B C : Mm} {v r : Int32} (h : Fc A B) (e : (if ¬ v &&& 1 = v then none else some (v, B)) = some (r, C)) : Fc A C := h.reti (ob_gd e).2
theorem Fr.retz {A B C : Mm} {v r : Int32} (h : Fr A B) (e : (if ¬ v &&& 1 = v then none else some (v, B)) = some (r, C)) : Fr A C := h.reti (ob_gd e).2
theorem fX0_get {o n1 n2 : Nat} (hoF : o + 2 < 31) {a1 : Int32} {M M' : Mm} {r : Int32} (h : rX0_get o n1 n2 a1 M = some (r, M')) : Fc M M' := by
  unfold rX0_get at h
  have F : Fc M M := Fc.rf
  rcases ob_ite h with ⟨c1, h⟩ | ⟨c1, h⟩
  ·
    exact F.reti h
  ·
    rcases ob_ite h with ⟨c2, h⟩ | ⟨c2, h⟩
    ·
      exact F.reti h
    ·
      obtain ⟨g3, h⟩ := ob_gd h
      exact F.reti h
theorem fX0_put {o n1 n2 : Nat} (hoF : o + 2 < 31) {a1 : Int32} {a2 : Int32} {M M' : Mm} (h : rX0_put o n1 n2 a1 a2 M = some M') : Fc M M' := by
  unfold rX0_put at h
  have F : Fc M M := Fc.rf
  rcases ob_ite h with ⟨c1, h⟩ | ⟨c1, h⟩
  ·
    exact F.retv h
  ·
    rcases ob_ite h with ⟨c2, h⟩ | ⟨c2, h⟩
    ·
      exact F.retv h
    ·
      obtain ⟨g3, h⟩ := ob_gd h
      obtain ⟨M4, eM4, h⟩ := ob_lx h
      have F := F.s1 eM4 (by omega)
      exact F.retv h
theorem fX0_append {o n1 n2 : Nat} (hoF : o + 2 < 31) {a1 : Int32} {M M' : Mm} (h : rX0_append o n1 n2 a1 M = some M') : Fc M M' := by
  unfold rX0_append at h
  have F : Fc M M := Fc.rf
  rcases ob_ite h with ⟨c1, h⟩ | ⟨c1, h⟩
  ·
    exact F.retv h
  ·
    obtain ⟨g2, h⟩ := ob_gd h
    obtain ⟨M3, eM3, h⟩ := ob_lx h
    have F := F.s1 eM3 (by omega)
    obtain ⟨M4, eM4, h⟩ := ob_lx h
    have F := F.s1 eM4 (by omega)
    exact F.retv h
theorem fX0_keepFirst {o n1 n2 : Nat} (hoF : o + 2 < 31) {a1 : Int32} {M M' : Mm} (h : rX0_keepFirst o n1 n2 a1 M = some M') : Fc M M' := by
  unfold rX0_keepFirst at h
  have F : Fc M M := Fc.rf
  obtain ⟨M1, eM1, h⟩ := ob_lx h
  have F := F.s1 eM1 (by omega)
  exact F.retv h
theorem fX0_checkOf_b9 {o n1 n2 : Nat} (hoF : o + 2 < 31) {M' : Mm} {r : Int32} : ∀ (n : Nat), ∀ (x2 : Int32) (x3 : Int32) (x4 : Int32) (M : Mm), rX0_checkOf_b9 o n1 n2 n x2 x3 x4 M = some (r, M') → Fc M M' := by
  intro n
  induction n with
  | zero =>
    intro x2 x3 x4 M h
    cases (show (none : Option (Int32 × Mm)) = some (r, M') from h)
  | succ n fq90 =>
    have fq9 : ∀ (x2 : Int32) (x3 : Int32) (x4 : Int32) (M : Mm), (rX0_checkOf_b9 o n1 n2 n) x2 x3 x4 M = some (r, M') → Fc M M' := fq90
    intro x2 x3 x4 M h
    have h : rX0_checkOf_b9_s o n1 n2 (rX0_checkOf_b9 o n1 n2 n) x2 x3 x4 M = some (r, M') := h
    unfold rX0_checkOf_b9_s at h
    have F : Fc M M := Fc.rf
    rcases ob_ite h with ⟨c2, h⟩ | ⟨c2, h⟩
    ·
      exact F.reti h
    ·
      rcases ob_ite h with ⟨c3, h⟩ | ⟨c3, h⟩
      ·
        exact F.reti h
      ·
        obtain ⟨g4, h⟩ := ob_gd h
        obtain ⟨y5, ey5, h⟩ := ob_lx h
        obtain ⟨y6, ey6, h⟩ := ob_lx h
        exact F.tr (fq9 _ _ _ _ h)
theorem fX0_checkOf {o n1 n2 : Nat} (hoF : o + 2 < 31) {a1 : Int32} {a2 : Int32} {M M' : Mm} {r : Int32} (h : rX0_checkOf o n1 n2 a1 a2 M = some (r, M')) : Fc M M' := by
  unfold rX0_checkOf at h
  have F : Fc M M := Fc.rf
  obtain ⟨y1, ey1, h⟩ := ob_lx h
  exact F.tr (fX0_checkOf_b9 hoF FU _ _ _ _ h)
theorem fX0_takeOut {o n1 n2 : Nat} (hoF : o + 2 < 31) {a1 : Int32} {a2 : Int32} {M M' : Mm} (h : rX0_takeOut o n1 n2 a1 a2 M = some M') : Fc M M' := by
  unfold rX0_takeOut at h
  have F : Fc M M := Fc.rf
  obtain ⟨M1, eM1, h⟩ := ob_lx h
  have F := F.s1 eM1 (by omega)
  rcases ob_ite h with ⟨c2, h⟩ | ⟨c2, h⟩
  ·
    exact F.retv h
  ·
    rcases ob_ite h with ⟨c3, h⟩ | ⟨c3, h⟩
    ·
      exact F.retv h
    ·
      rcases ob_ite h with ⟨c4, h⟩ | ⟨c4, h⟩
      ·
        exact F.retv h
      ·
        rcases ob_ite h with ⟨c5, h⟩ | ⟨c5, h⟩
        ·
          obtain ⟨g6, h⟩ := ob_gd h
          obtain ⟨M7, eM7, h⟩ := ob_lx h
          have F := F.s3 eM7 (by omega)
          obtain ⟨g8, h⟩ := ob_gd h
          obtain ⟨M9, eM9, h⟩ := ob_lx h
          have F := F.s3 eM9 (by omega)
          obtain ⟨M10, eM10, h⟩ := ob_lx h
          have F := F.s1 eM10 (by omega)
          obtain ⟨M11, eM11, h⟩ := ob_lx h
          have F := F.s1 eM11 (by omega)
          exact F.retv h
        ·
          exact F.retv h
theorem fX0_putBack {o n1 n2 : Nat} (hoF : o + 2 < 31) {a1 : Int32} {M M' : Mm} (h : rX0_putBack o n1 n2 a1 M = some M') : Fc M M' := by
  unfold rX0_putBack at h
  have F : Fc M M := Fc.rf
  rcases ob_ite h with ⟨c1, h⟩ | ⟨c1, h⟩
  ·
    exact F.retv h
  ·
    rcases ob_ite h with ⟨c2, h⟩ | ⟨c2, h⟩
    ·
      exact F.retv h
    ·
      rcases ob_ite h with ⟨c3, h⟩ | ⟨c3, h⟩
      ·
        obtain ⟨g4, h⟩ := ob_gd h
        obtain ⟨M5, eM5, h⟩ := ob_lx h
        have F := F.s3 eM5 (by omega)
        obtain ⟨g6, h⟩ := ob_gd h
        obtain ⟨M7, eM7, h⟩ := ob_lx h
        have F := F.s3 eM7 (by omega)
        obtain ⟨M8, eM8, h⟩ := ob_lx h
        have F := F.s1 eM8 (by omega)
        obtain ⟨M9, eM9, h⟩ := ob_lx h
        have F := F.s1 eM9 (by omega)
        exact F.retv h
      ·
        exact F.retv h
theorem fX1_append {a1 : Int32} {a2 : Int32} {a3 : Int32} {a4 : Int32} {a5 : Int32} {M M' : Mm} (h : rX1_append a1 a2 a3 a4 a5 M = some M') : Fc M M' := by
  unfold rX1_append at h
  have F : Fc M M := Fc.rf
  rcases ob_ite h with ⟨c1, h⟩ | ⟨c1, h⟩
  ·
    exact F.retv h
  ·
    obtain ⟨g2, h⟩ := ob_gd h
    obtain ⟨M3, eM3, h⟩ := ob_lx h
    have F := F.s1 eM3 (by decide)
    obtain ⟨g4, h⟩ := ob_gd h
    obtain ⟨M5, eM5, h⟩ := ob_lx h
    have F := F.s1 eM5 (by decide)
    obtain ⟨g6, h⟩ := ob_gd h
    obtain ⟨M7, eM7, h⟩ := ob_lx h
    have F := F.s1 eM7 (by decide)
    obtain ⟨g8, h⟩ := ob_gd h
    obtain ⟨M9, eM9, h⟩ := ob_lx h
    have F := F.s1 eM9 (by decide)
    obtain ⟨g10, h⟩ := ob_gd h
    obtain ⟨M11, eM11, h⟩ := ob_lx h
    have F := F.s1 eM11 (by decide)
    obtain ⟨M12, eM12, h⟩ := ob_lx h
    have F := F.s1 eM12 (by decide)
    exact F.retv h
theorem fX1_get {a1 : Int32} {a2 : Int32} {M M' : Mm} {r : Int32} (h : rX1_get a1 a2 M = some (r, M')) : Fc M M' := by
  unfold rX1_get at h
  have F : Fc M M := Fc.rf
  rcases ob_ite h with ⟨c1, h⟩ | ⟨c1, h⟩
  ·
    exact F.reti h
  ·
    rcases ob_ite h with ⟨c2, h⟩ | ⟨c2, h⟩
    ·
      rcases ob_ite h with ⟨c3, h⟩ | ⟨c3, h⟩
      ·
        obtain ⟨g4, h⟩ := ob_gd h
        exact F.reti h
      ·
        rcases ob_ite h with ⟨c5, h⟩ | ⟨c5, h⟩
        ·
          obtain ⟨g6, h⟩ := ob_gd h
          exact F.reti h
        ·
          rcases ob_ite h with ⟨c7, h⟩ | ⟨c7, h⟩
          ·
            obtain ⟨g8, h⟩ := ob_gd h
            exact F.reti h
          ·
            rcases ob_ite h with ⟨c9, h⟩ | ⟨c9, h⟩
            ·
              obtain ⟨g10, h⟩ := ob_gd h
              exact F.reti h
            ·
              exact F.reti h
    ·
      exact F.reti h
theorem fX1_copyLengths {M M' : Mm} {r : Int32} (h : rX1_copyLengths M = some (r, M')) : Fc M M' := by
  unfold rX1_copyLengths at h
  have F : Fc M M := Fc.rf
  obtain ⟨y1, ey1, h⟩ := ob_lx h
  obtain ⟨g2, h⟩ := ob_gd h
  obtain ⟨M3, eM3, h⟩ := ob_lx h
  have F := F.s3 eM3 (by decide)
  exact F.reti h
theorem fX2_append {a1 : Int32} {a2 : Int32} {M M' : Mm} (h : rX2_append a1 a2 M = some M') : Fc M M' := by
  unfold rX2_append at h
  have F : Fc M M := Fc.rf
  obtain ⟨M2, e1, h⟩ := ob_bind h
  have F := F.tr (fX0_append (by omega) e1)
  obtain ⟨M4, e3, h⟩ := ob_bind h
  have F := F.tr (fX0_append (by omega) e3)
  exact F.retv h
theorem fX2_next {a1 : Int32} {M M' : Mm} {r : Int32} (h : rX2_next a1 M = some (r, M')) : Fc M M' := by
  unfold rX2_next at h
  have F : Fc M M := Fc.rf
  obtain ⟨M1, eM1, h⟩ := ob_lx h
  have F := F.s2 eM1 (by decide)
  rcases ob_ite h with ⟨c2, h⟩ | ⟨c2, h⟩
  ·
    obtain ⟨g3, h⟩ := ob_gd h
    exact F.reti h
  ·
    exact F.reti h
theorem fX2_appendDrawn_b2 {M' : Mm} : ∀ (n : Nat), ∀ (x1 : Int32) (x2 : Int32) (M : Mm), rX2_appendDrawn_b2 n x1 x2 M = some M' → Fc M M' := by
  intro n
  induction n with
  | zero =>
    intro x1 x2 M h
    cases (show (none : Option Mm) = some M' from h)
  | succ n fq20 =>
    have fq2 : ∀ (x1 : Int32) (x2 : Int32) (M : Mm), (rX2_appendDrawn_b2 n) x1 x2 M = some M' → Fc M M' := fq20
    intro x1 x2 M h
    have h : rX2_appendDrawn_b2_s (rX2_appendDrawn_b2 n) x1 x2 M = some M' := h
    unfold rX2_appendDrawn_b2_s at h
    have F : Fc M M := Fc.rf
    rcases ob_ite h with ⟨c1, h⟩ | ⟨c1, h⟩
    ·
      exact F.retv h
    ·
      obtain ⟨r4, M3, e2, h⟩ := ob_bd2 h
      have F := F.tr (fX2_next e2)
      obtain ⟨M6, e5, h⟩ := ob_bind h
      have F := F.tr (fX0_append (by omega) e5)
      obtain ⟨y7, ey7, h⟩ := ob_lx h
      exact F.tr (fq2 _ _ _ h)
theorem fX2_appendDrawn {a1 : Int32} {M M' : Mm} (h : rX2_appendDrawn a1 M = some M') : Fc M M' := by
  unfold rX2_appendDrawn at h
  have F : Fc M M := Fc.rf
  exact F.tr (fX2_appendDrawn_b2 FU _ _ _ h)
theorem fX2_appendEnd {a1 : Int32} {M M' : Mm} (h : rX2_appendEnd a1 M = some M') : Fc M M' := by
  unfold rX2_appendEnd at h
  have F : Fc M M := Fc.rf
  obtain ⟨M2, e1, h⟩ := ob_bind h
  have F := F.tr (fX0_append (by omega) e1)
  obtain ⟨r5, M4, e3, h⟩ := ob_bd2 h
  have F := F.tr (fX0_checkOf (by omega) e3)
  obtain ⟨M7, e6, h⟩ := ob_bind h
  have F := F.tr (fX0_append (by omega) e6)
  exact F.retv h
theorem fX2_makeLies {a1 : Int32} {M M' : Mm} (h : rX2_makeLies a1 M = some M') : Fc M M' := by
  unfold rX2_makeLies at h
  have F : Fc M M := Fc.rf
  obtain ⟨M2, e1, h⟩ := ob_bind h
  have F := F.tr (fX2_append e1)
  obtain ⟨M4, e3, h⟩ := ob_bind h
  have F := F.tr (fX2_append e3)
  obtain ⟨M6, e5, h⟩ := ob_bind h
  have F := F.tr (fX2_appendDrawn e5)
  obtain ⟨M8, e7, h⟩ := ob_bind h
  have F := F.tr (fX2_appendEnd e7)
  exact F.retv h
theorem fX2_append_ {a1 : Int32} {a2 : Int32} {a3 : Int32} {M M' : Mm} (h : rX2_append_ a1 a2 a3 M = some M') : Fc M M' := by
  unfold rX2_append_ at h
  have F : Fc M M := Fc.rf
  obtain ⟨M2, e1, h⟩ := ob_bind h
  have F := F.tr (fX0_append (by omega) e1)
  obtain ⟨M4, e3, h⟩ := ob_bind h
  have F := F.tr (fX0_append (by omega) e3)
  obtain ⟨M6, e5, h⟩ := ob_bind h
  have F := F.tr (fX0_append (by omega) e5)
  exact F.retv h
theorem fX2_makeRuns_b10 {M' : Mm} : ∀ (n : Nat), ∀ (x1 : Int32) (x2 : Int32) (M : Mm), rX2_makeRuns_b10 n x1 x2 M = some M' → Fc M M' := by
  intro n
  induction n with
  | zero =>
    intro x1 x2 M h
    cases (show (none : Option Mm) = some M' from h)
  | succ n fq100 =>
    have fq10 : ∀ (x1 : Int32) (x2 : Int32) (M : Mm), (rX2_makeRuns_b10 n) x1 x2 M = some M' → Fc M M' := fq100
    intro x1 x2 M h
    have h : rX2_makeRuns_b10_s (rX2_makeRuns_b10 n) x1 x2 M = some M' := h
    unfold rX2_makeRuns_b10_s at h
    have F : Fc M M := Fc.rf
    rcases ob_ite h with ⟨c3, h⟩ | ⟨c3, h⟩
    ·
      obtain ⟨M5, e4, h⟩ := ob_bind h
      have F := F.tr (fX2_appendEnd e4)
      exact F.retv h
    ·
      obtain ⟨r8, M7, e6, h⟩ := ob_bd2 h
      have F := F.tr (fX2_next e6)
      obtain ⟨M10, e9, h⟩ := ob_bind h
      have F := F.tr (fX2_append_ e9)
      obtain ⟨y11, ey11, h⟩ := ob_lx h
      exact F.tr (fq10 _ _ _ h)
theorem fX2_makeRuns {a1 : Int32} {M M' : Mm} (h : rX2_makeRuns a1 M = some M') : Fc M M' := by
  unfold rX2_makeRuns at h
  have F : Fc M M := Fc.rf
  obtain ⟨M2, e1, h⟩ := ob_bind h
  have F := F.tr (fX2_append e1)
  exact F.tr (fX2_makeRuns_b10 FU _ _ _ h)
theorem fX2_makeOverlaps_b23 {M' : Mm} : ∀ (n : Nat), ∀ (x1 : Int32) (x2 : Int32) (M : Mm), rX2_makeOverlaps_b23 n x1 x2 M = some M' → Fc M M' := by
  intro n
  induction n with
  | zero =>
    intro x1 x2 M h
    cases (show (none : Option Mm) = some M' from h)
  | succ n fq230 =>
    have fq23 : ∀ (x1 : Int32) (x2 : Int32) (M : Mm), (rX2_makeOverlaps_b23 n) x1 x2 M = some M' → Fc M M' := fq230
    intro x1 x2 M h
    have h : rX2_makeOverlaps_b23_s (rX2_makeOverlaps_b23 n) x1 x2 M = some M' := h
    unfold rX2_makeOverlaps_b23_s at h
    have F : Fc M M := Fc.rf
    rcases ob_ite h with ⟨c8, h⟩ | ⟨c8, h⟩
    ·
      obtain ⟨M10, e9, h⟩ := ob_bind h
      have F := F.tr (fX2_appendEnd e9)
      exact F.retv h
    ·
      obtain ⟨M12, e11, h⟩ := ob_bind h
      have F := F.tr (fX2_append_ e11)
      obtain ⟨y13, ey13, h⟩ := ob_lx h
      exact F.tr (fq23 _ _ _ h)
theorem fX2_makeOverlaps {a1 : Int32} {M M' : Mm} (h : rX2_makeOverlaps a1 M = some M') : Fc M M' := by
  unfold rX2_makeOverlaps at h
  have F : Fc M M := Fc.rf
  obtain ⟨M2, e1, h⟩ := ob_bind h
  have F := F.tr (fX2_append e1)
  obtain ⟨r5, M4, e3, h⟩ := ob_bd2 h
  have F := F.tr (fX2_next e3)
  obtain ⟨M7, e6, h⟩ := ob_bind h
  have F := F.tr (fX2_append_ e6)
  exact F.tr (fX2_makeOverlaps_b23 FU _ _ _ h)
theorem fX2_makeDeep_b67 {M' : Mm} : ∀ (n : Nat), ∀ (x2 : Int32) (M : Mm), rX2_makeDeep_b67 n x2 M = some M' → Fc M M' := by
  intro n
  induction n with
  | zero =>
    intro x2 M h
    cases (show (none : Option Mm) = some M' from h)
  | succ n fq670 =>
    have fq67 : ∀ (x2 : Int32) (M : Mm), (rX2_makeDeep_b67 n) x2 M = some M' → Fc M M' := fq670
    intro x2 M h
    have h : rX2_makeDeep_b67_s (rX2_makeDeep_b67 n) x2 M = some M' := h
    unfold rX2_makeDeep_b67_s at h
    have F : Fc M M := Fc.rf
    rcases ob_ite h with ⟨c10, h⟩ | ⟨c10, h⟩
    ·
      exact F.retv h
    ·
      obtain ⟨M12, e11, h⟩ := ob_bind h
      have F := F.tr (fX2_appendEnd e11)
      obtain ⟨y13, ey13, h⟩ := ob_lx h
      exact F.tr (fq67 _ _ h)
theorem fX2_makeDeep_b4 {M' : Mm} : ∀ (n : Nat), ∀ (x1 : Int32) (x2 : Int32) (M : Mm), rX2_makeDeep_b4 n x1 x2 M = some M' → Fc M M' := by
  intro n
  induction n with
  | zero =>
    intro x1 x2 M h
    cases (show (none : Option Mm) = some M' from h)
  | succ n fq40 =>
    have fq4 : ∀ (x1 : Int32) (x2 : Int32) (M : Mm), (rX2_makeDeep_b4 n) x1 x2 M = some M' → Fc M M' := fq40
    intro x1 x2 M h
    have h : rX2_makeDeep_b4_s (rX2_makeDeep_b4 n) x1 x2 M = some M' := h
    unfold rX2_makeDeep_b4_s at h
    have F : Fc M M := Fc.rf
    rcases ob_ite h with ⟨c2, h⟩ | ⟨c2, h⟩
    ·
      obtain ⟨M4, e3, h⟩ := ob_bind h
      have F := F.tr (fX2_append e3)
      obtain ⟨r7, M6, e5, h⟩ := ob_bd2 h
      have F := F.tr (fX2_next e5)
      obtain ⟨M9, e8, h⟩ := ob_bind h
      have F := F.tr (fX2_append_ e8)
      exact F.tr (fX2_makeDeep_b67 FU _ _ h)
    ·
      obtain ⟨y14, ey14, h⟩ := ob_lx h
      obtain ⟨M16, e15, h⟩ := ob_bind h
      have F := F.tr (fX2_append e15)
      obtain ⟨M18, e17, h⟩ := ob_bind h
      have F := F.tr (fX2_append_ e17)
      obtain ⟨y19, ey19, h⟩ := ob_lx h
      exact F.tr (fq4 _ _ _ h)
theorem fX2_makeDeep {a1 : Int32} {M M' : Mm} (h : rX2_makeDeep a1 M = some M') : Fc M M' := by
  unfold rX2_makeDeep at h
  have F : Fc M M := Fc.rf
  obtain ⟨y1, ey1, h⟩ := ob_lx h
  exact F.tr (fX2_makeDeep_b4 FU _ _ _ h)
theorem fX2_appendEmptyNotes_b2 {M' : Mm} : ∀ (n : Nat), ∀ (x1 : Int32) (x2 : Int32) (M : Mm), rX2_appendEmptyNotes_b2 n x1 x2 M = some M' → Fc M M' := by
  intro n
  induction n with
  | zero =>
    intro x1 x2 M h
    cases (show (none : Option Mm) = some M' from h)
  | succ n fq20 =>
    have fq2 : ∀ (x1 : Int32) (x2 : Int32) (M : Mm), (rX2_appendEmptyNotes_b2 n) x1 x2 M = some M' → Fc M M' := fq20
    intro x1 x2 M h
    have h : rX2_appendEmptyNotes_b2_s (rX2_appendEmptyNotes_b2 n) x1 x2 M = some M' := h
    unfold rX2_appendEmptyNotes_b2_s at h
    have F : Fc M M := Fc.rf
    rcases ob_ite h with ⟨c1, h⟩ | ⟨c1, h⟩
    ·
      exact F.retv h
    ·
      obtain ⟨M3, e2, h⟩ := ob_bind h
      have F := F.tr (fX2_append e2)
      obtain ⟨y4, ey4, h⟩ := ob_lx h
      exact F.tr (fq2 _ _ _ h)
theorem fX2_appendEmptyNotes {a1 : Int32} {M M' : Mm} (h : rX2_appendEmptyNotes a1 M = some M') : Fc M M' := by
  unfold rX2_appendEmptyNotes at h
  have F : Fc M M := Fc.rf
  exact F.tr (fX2_appendEmptyNotes_b2 FU _ _ _ h)
theorem fX2_makeEmpty {a1 : Int32} {M M' : Mm} (h : rX2_makeEmpty a1 M = some M') : Fc M M' := by
  unfold rX2_makeEmpty at h
  have F : Fc M M := Fc.rf
  obtain ⟨M2, e1, h⟩ := ob_bind h
  have F := F.tr (fX2_append e1)
  obtain ⟨M4, e3, h⟩ := ob_bind h
  have F := F.tr (fX2_appendEmptyNotes e3)
  obtain ⟨M6, e5, h⟩ := ob_bind h
  have F := F.tr (fX2_appendEnd e5)
  exact F.retv h
theorem fX2_makeAgains_b23 {M' : Mm} : ∀ (n : Nat), ∀ (x1 : Int32) (x2 : Int32) (M : Mm), rX2_makeAgains_b23 n x1 x2 M = some M' → Fc M M' := by
  intro n
  induction n with
  | zero =>
    intro x1 x2 M h
    cases (show (none : Option Mm) = some M' from h)
  | succ n fq230 =>
    have fq23 : ∀ (x1 : Int32) (x2 : Int32) (M : Mm), (rX2_makeAgains_b23 n) x1 x2 M = some M' → Fc M M' := fq230
    intro x1 x2 M h
    have h : rX2_makeAgains_b23_s (rX2_makeAgains_b23 n) x1 x2 M = some M' := h
    unfold rX2_makeAgains_b23_s at h
    have F : Fc M M := Fc.rf
    rcases ob_ite h with ⟨c8, h⟩ | ⟨c8, h⟩
    ·
      obtain ⟨M10, e9, h⟩ := ob_bind h
      have F := F.tr (fX2_appendEnd e9)
      exact F.retv h
    ·
      obtain ⟨M12, e11, h⟩ := ob_bind h
      have F := F.tr (fX2_append e11)
      obtain ⟨y13, ey13, h⟩ := ob_lx h
      exact F.tr (fq23 _ _ _ h)
theorem fX2_makeAgains {a1 : Int32} {M M' : Mm} (h : rX2_makeAgains a1 M = some M') : Fc M M' := by
  unfold rX2_makeAgains at h
  have F : Fc M M := Fc.rf
  obtain ⟨M2, e1, h⟩ := ob_bind h
  have F := F.tr (fX2_append e1)
  obtain ⟨r5, M4, e3, h⟩ := ob_bd2 h
  have F := F.tr (fX2_next e3)
  obtain ⟨M7, e6, h⟩ := ob_bind h
  have F := F.tr (fX2_append_ e6)
  exact F.tr (fX2_makeAgains_b23 FU _ _ _ h)
theorem fX2_makeTables_b40 {M' : Mm} : ∀ (n : Nat), ∀ (x1 : Int32) (x2 : Int32) (M : Mm), rX2_makeTables_b40 n x1 x2 M = some M' → Fc M M' := by
  intro n
  induction n with
  | zero =>
    intro x1 x2 M h
    cases (show (none : Option Mm) = some M' from h)
  | succ n fq400 =>
    have fq40 : ∀ (x1 : Int32) (x2 : Int32) (M : Mm), (rX2_makeTables_b40 n) x1 x2 M = some M' → Fc M M' := fq400
    intro x1 x2 M h
    have h : rX2_makeTables_b40_s (rX2_makeTables_b40 n) x1 x2 M = some M' := h
    unfold rX2_makeTables_b40_s at h
    have F : Fc M M := Fc.rf
    rcases ob_ite h with ⟨c6, h⟩ | ⟨c6, h⟩
    ·
      obtain ⟨M8, e7, h⟩ := ob_bind h
      have F := F.tr (fX0_append (by omega) e7)
      obtain ⟨M10, e9, h⟩ := ob_bind h
      have F := F.tr (fX2_appendEmptyNotes e9)
      obtain ⟨M12, e11, h⟩ := ob_bind h
      have F := F.tr (fX2_appendEnd e11)
      exact F.retv h
    ·
      obtain ⟨r15, M14, e13, h⟩ := ob_bd2 h
      have F := F.tr (fX2_next e13)
      obtain ⟨M17, e16, h⟩ := ob_bind h
      have F := F.tr (fX0_append (by omega) e16)
      obtain ⟨y18, ey18, h⟩ := ob_lx h
      exact F.tr (fq40 _ _ _ h)
theorem fX2_makeTables_b18 {M' : Mm} : ∀ (n : Nat), ∀ (x1 : Int32) (x2 : Int32) (M : Mm), rX2_makeTables_b18 n x1 x2 M = some M' → Fc M M' := by
  intro n
  induction n with
  | zero =>
    intro x1 x2 M h
    cases (show (none : Option Mm) = some M' from h)
  | succ n fq180 =>
    have fq18 : ∀ (x1 : Int32) (x2 : Int32) (M : Mm), (rX2_makeTables_b18 n) x1 x2 M = some M' → Fc M M' := fq180
    intro x1 x2 M h
    have h : rX2_makeTables_b18_s (rX2_makeTables_b18 n) x1 x2 M = some M' := h
    unfold rX2_makeTables_b18_s at h
    have F : Fc M M := Fc.rf
    rcases ob_ite h with ⟨c5, h⟩ | ⟨c5, h⟩
    ·
      exact F.tr (fX2_makeTables_b40 FU _ _ _ h)
    ·
      obtain ⟨M20, e19, h⟩ := ob_bind h
      have F := F.tr (fX0_append (by omega) e19)
      obtain ⟨y21, ey21, h⟩ := ob_lx h
      exact F.tr (fq18 _ _ _ h)
theorem fX2_makeTables {a1 : Int32} {M M' : Mm} (h : rX2_makeTables a1 M = some M') : Fc M M' := by
  unfold rX2_makeTables at h
  have F : Fc M M := Fc.rf
  obtain ⟨M2, e1, h⟩ := ob_bind h
  have F := F.tr (fX2_append e1)
  obtain ⟨M4, e3, h⟩ := ob_bind h
  have F := F.tr (fX2_append e3)
  exact F.tr (fX2_makeTables_b18 FU _ _ _ h)
theorem fX2_appendCounted {a1 : Int32} {a2 : Int32} {M M' : Mm} (h : rX2_appendCounted a1 a2 M = some M') : Fc M M' := by
  unfold rX2_appendCounted at h
  have F : Fc M M := Fc.rf
  obtain ⟨M2, e1, h⟩ := ob_bind h
  have F := F.tr (fX2_append e1)
  obtain ⟨M4, e3, h⟩ := ob_bind h
  have F := F.tr (fX2_appendDrawn e3)
  exact F.retv h
theorem fX2_appendDrawnAgain {a1 : Int32} {M M' : Mm} (h : rX2_appendDrawnAgain a1 M = some M') : Fc M M' := by
  unfold rX2_appendDrawnAgain at h
  have F : Fc M M := Fc.rf
  rcases ob_ite h with ⟨c1, h⟩ | ⟨c1, h⟩
  ·
    obtain ⟨r4, M3, e2, h⟩ := ob_bd2 h
    have F := F.tr (fX2_next e2)
    obtain ⟨M6, e5, h⟩ := ob_bind h
    have F := F.tr (fX2_append_ e5)
    exact F.retv h
  ·
    obtain ⟨r9, M8, e7, h⟩ := ob_bd2 h
    have F := F.tr (fX2_next e7)
    obtain ⟨M11, e10, h⟩ := ob_bind h
    have F := F.tr (fX2_append e10)
    exact F.retv h
theorem fX2_appendDrawnNest {M M' : Mm} (h : rX2_appendDrawnNest M = some M') : Fc M M' := by
  unfold rX2_appendDrawnNest at h
  have F : Fc M M := Fc.rf
  obtain ⟨r3, M2, e1, h⟩ := ob_bd2 h
  have F := F.tr (fX2_next e1)
  obtain ⟨M5, e4, h⟩ := ob_bind h
  have F := F.tr (fX2_append_ e4)
  obtain ⟨y6, ey6, h⟩ := ob_lx h
  obtain ⟨M8, e7, h⟩ := ob_bind h
  have F := F.tr (fX2_append e7)
  obtain ⟨M10, e9, h⟩ := ob_bind h
  have F := F.tr (fX2_appendCounted e9)
  obtain ⟨M12, e11, h⟩ := ob_bind h
  have F := F.tr (fX2_appendEnd e11)
  exact F.retv h
theorem fX2_appendDrawnItem {a1 : Int32} {M M' : Mm} (h : rX2_appendDrawnItem a1 M = some M') : Fc M M' := by
  unfold rX2_appendDrawnItem at h
  have F : Fc M M := Fc.rf
  obtain ⟨r3, M2, e1, h⟩ := ob_bd2 h
  have F := F.tr (fX2_next e1)
  rcases ob_ite h with ⟨c4, h⟩ | ⟨c4, h⟩
  ·
    obtain ⟨r7, M6, e5, h⟩ := ob_bd2 h
    have F := F.tr (fX2_next e5)
    obtain ⟨M9, e8, h⟩ := ob_bind h
    have F := F.tr (fX2_appendCounted e8)
    exact F.retv h
  ·
    rcases ob_ite h with ⟨c10, h⟩ | ⟨c10, h⟩
    ·
      obtain ⟨r13, M12, e11, h⟩ := ob_bd2 h
      have F := F.tr (fX2_next e11)
      obtain ⟨r16, M15, e14, h⟩ := ob_bd2 h
      have F := F.tr (fX2_next e14)
      obtain ⟨M18, e17, h⟩ := ob_bind h
      have F := F.tr (fX2_append_ e17)
      exact F.retv h
    ·
      rcases ob_ite h with ⟨c19, h⟩ | ⟨c19, h⟩
      ·
        obtain ⟨r22, M21, e20, h⟩ := ob_bd2 h
        have F := F.tr (fX2_next e20)
        obtain ⟨r25, M24, e23, h⟩ := ob_bd2 h
        have F := F.tr (fX2_next e23)
        obtain ⟨M27, e26, h⟩ := ob_bind h
        have F := F.tr (fX2_append_ e26)
        exact F.retv h
      ·
        rcases ob_ite h with ⟨c28, h⟩ | ⟨c28, h⟩
        ·
          obtain ⟨r31, M30, e29, h⟩ := ob_bd2 h
          have F := F.tr (fX2_next e29)
          obtain ⟨M33, e32, h⟩ := ob_bind h
          have F := F.tr (fX2_appendCounted e32)
          exact F.retv h
        ·
          rcases ob_ite h with ⟨c34, h⟩ | ⟨c34, h⟩
          ·
            obtain ⟨M36, e35, h⟩ := ob_bind h
            have F := F.tr (fX2_appendDrawnAgain e35)
            exact F.retv h
          ·
            obtain ⟨M38, e37, h⟩ := ob_bind h
            have F := F.tr (fX2_appendDrawnNest e37)
            exact F.retv h
theorem fX2_makeDrawn_b10 {M' : Mm} : ∀ (n : Nat), ∀ (x1 : Int32) (x2 : Int32) (M : Mm), rX2_makeDrawn_b10 n x1 x2 M = some M' → Fc M M' := by
  intro n
  induction n with
  | zero =>
    intro x1 x2 M h
    cases (show (none : Option Mm) = some M' from h)
  | succ n fq100 =>
    have fq10 : ∀ (x1 : Int32) (x2 : Int32) (M : Mm), (rX2_makeDrawn_b10 n) x1 x2 M = some M' → Fc M M' := fq100
    intro x1 x2 M h
    have h : rX2_makeDrawn_b10_s (rX2_makeDrawn_b10 n) x1 x2 M = some M' := h
    unfold rX2_makeDrawn_b10_s at h
    have F : Fc M M := Fc.rf
    rcases ob_ite h with ⟨c3, h⟩ | ⟨c3, h⟩
    ·
      obtain ⟨M5, e4, h⟩ := ob_bind h
      have F := F.tr (fX2_appendEnd e4)
      exact F.retv h
    ·
      obtain ⟨M7, e6, h⟩ := ob_bind h
      have F := F.tr (fX2_appendDrawnItem e6)
      obtain ⟨y8, ey8, h⟩ := ob_lx h
      exact F.tr (fq10 _ _ _ h)
theorem fX2_makeDrawn {a1 : Int32} {M M' : Mm} (h : rX2_makeDrawn a1 M = some M') : Fc M M' := by
  unfold rX2_makeDrawn at h
  have F : Fc M M := Fc.rf
  obtain ⟨M2, e1, h⟩ := ob_bind h
  have F := F.tr (fX2_append e1)
  exact F.tr (fX2_makeDrawn_b10 FU _ _ _ h)
theorem fX2_cutEnd {M M' : Mm} (h : rX2_cutEnd M = some M') : Fc M M' := by
  unfold rX2_cutEnd at h
  have F : Fc M M := Fc.rf
  obtain ⟨r3, M2, e1, h⟩ := ob_bd2 h
  have F := F.tr (fX2_next e1)
  obtain ⟨y4, ey4, h⟩ := ob_lx h
  obtain ⟨M6, e5, h⟩ := ob_bind h
  have F := F.tr (fX0_keepFirst (by omega) e5)
  exact F.retv h
theorem fX2_spoilCheck {M M' : Mm} (h : rX2_spoilCheck M = some M') : Fc M M' := by
  unfold rX2_spoilCheck at h
  have F : Fc M M := Fc.rf
  obtain ⟨y1, ey1, h⟩ := ob_lx h
  obtain ⟨r4, M3, e2, h⟩ := ob_bd2 h
  have F := F.tr (fX0_get (by omega) e2)
  obtain ⟨M6, e5, h⟩ := ob_bind h
  have F := F.tr (fX0_put (by omega) e5)
  exact F.retv h
theorem fX2_make {a1 : Int32} {a2 : Int32} {M M' : Mm} (h : rX2_make a1 a2 M = some M') : Fc M M' := by
  unfold rX2_make at h
  have F : Fc M M := Fc.rf
  obtain ⟨M2, e1, h⟩ := ob_bind h
  have F := F.tr (fX0_keepFirst (by omega) e1)
  rcases ob_ite h with ⟨c3, h⟩ | ⟨c3, h⟩
  ·
    obtain ⟨M5, e4, h⟩ := ob_bind h
    have F := F.tr (fX2_makeLies e4)
    exact F.retv h
  ·
    rcases ob_ite h with ⟨c6, h⟩ | ⟨c6, h⟩
    ·
      obtain ⟨M8, e7, h⟩ := ob_bind h
      have F := F.tr (fX2_makeRuns e7)
      exact F.retv h
    ·
      rcases ob_ite h with ⟨c9, h⟩ | ⟨c9, h⟩
      ·
        obtain ⟨M11, e10, h⟩ := ob_bind h
        have F := F.tr (fX2_makeOverlaps e10)
        exact F.retv h
      ·
        rcases ob_ite h with ⟨c12, h⟩ | ⟨c12, h⟩
        ·
          obtain ⟨M14, e13, h⟩ := ob_bind h
          have F := F.tr (fX2_makeDeep e13)
          exact F.retv h
        ·
          rcases ob_ite h with ⟨c15, h⟩ | ⟨c15, h⟩
          ·
            obtain ⟨M17, e16, h⟩ := ob_bind h
            have F := F.tr (fX2_makeEmpty e16)
            exact F.retv h
          ·
            rcases ob_ite h with ⟨c18, h⟩ | ⟨c18, h⟩
            ·
              obtain ⟨M20, e19, h⟩ := ob_bind h
              have F := F.tr (fX2_makeAgains e19)
              exact F.retv h
            ·
              rcases ob_ite h with ⟨c21, h⟩ | ⟨c21, h⟩
              ·
                obtain ⟨M23, e22, h⟩ := ob_bind h
                have F := F.tr (fX2_makeTables e22)
                exact F.retv h
              ·
                rcases ob_ite h with ⟨c24, h⟩ | ⟨c24, h⟩
                ·
                  obtain ⟨M26, e25, h⟩ := ob_bind h
                  have F := F.tr (fX2_makeDrawn e25)
                  obtain ⟨M28, e27, h⟩ := ob_bind h
                  have F := F.tr (fX2_cutEnd e27)
                  exact F.retv h
                ·
                  rcases ob_ite h with ⟨c29, h⟩ | ⟨c29, h⟩
                  ·
                    obtain ⟨M31, e30, h⟩ := ob_bind h
                    have F := F.tr (fX2_makeDrawn e30)
                    obtain ⟨M33, e32, h⟩ := ob_bind h
                    have F := F.tr (fX2_spoilCheck e32)
                    exact F.retv h
                  ·
                    obtain ⟨M35, e34, h⟩ := ob_bind h
                    have F := F.tr (fX2_makeDrawn e34)
                    exact F.retv h
theorem fX3_begin {pk : Nat} (hoF : pk < 31) {a1 : Int32} {a2 : Int32} {a3 : Int32} {a4 : Int32} {M M' : Mm} (h : rX3_begin pk a1 a2 a3 a4 M = some M') : Fc M M' := by
  unfold rX3_begin at h
  have F : Fc M M := Fc.rf
  obtain ⟨M1, eM1, h⟩ := ob_lx h
  have F := F.s1 eM1 (by omega)
  obtain ⟨M2, eM2, h⟩ := ob_lx h
  have F := F.s1 eM2 (by omega)
  obtain ⟨M3, eM3, h⟩ := ob_lx h
  have F := F.s1 eM3 (by omega)
  obtain ⟨M4, eM4, h⟩ := ob_lx h
  have F := F.s1 eM4 (by omega)
  obtain ⟨M5, eM5, h⟩ := ob_lx h
  have F := F.s1 eM5 (by omega)
  exact F.retv h
theorem fX4_fail {a1 : Int32} {a2 : Int32} {M M' : Mm} (h : rX4_fail a1 a2 M = some M') : Fc M M' := by
  unfold rX4_fail at h
  have F : Fc M M := Fc.rf
  rcases ob_ite h with ⟨c1, h⟩ | ⟨c1, h⟩
  ·
    obtain ⟨M2, eM2, h⟩ := ob_lx h
    have F := F.s1 eM2 (by decide)
    obtain ⟨M3, eM3, h⟩ := ob_lx h
    have F := F.s1 eM3 (by decide)
    exact F.retv h
  ·
    exact F.retv h
theorem fX4_canPay {a1 : Int32} {a2 : Int32} {a3 : Int32} {M M' : Mm} {r : Int32} (h : rX4_canPay a1 a2 a3 M = some (r, M')) : Fc M M' := by
  unfold rX4_canPay at h
  have F : Fc M M := Fc.rf
  rcases ob_ite h with ⟨c1, h⟩ | ⟨c1, h⟩
  ·
    rcases ob_ite h with ⟨c2, h⟩ | ⟨c2, h⟩
    ·
      exact F.retz h
    ·
      obtain ⟨M4, e3, h⟩ := ob_bind h
      have F := F.tr (fX4_fail e3)
      exact F.retz h
  ·
    obtain ⟨M6, e5, h⟩ := ob_bind h
    have F := F.tr (fX4_fail e5)
    exact F.retz h
theorem fX4_pay {a1 : Int32} {a2 : Int32} {a3 : Int32} {M M' : Mm} {r : Int32} (h : rX4_pay a1 a2 a3 M = some (r, M')) : Fc M M' := by
  unfold rX4_pay at h
  have F : Fc M M := Fc.rf
  obtain ⟨r3, M2, e1, h⟩ := ob_bd2 h
  have F := F.tr (fX4_canPay e1)
  rcases ob_ite h with ⟨c4, h⟩ | ⟨c4, h⟩
  ·
    exact F.retz h
  ·
    obtain ⟨M5, eM5, h⟩ := ob_lx h
    have F := F.s1 eM5 (by decide)
    exact F.retz h
theorem fX4_next {a1 : Int32} {M M' : Mm} {r : Int32} (h : rX4_next a1 M = some (r, M')) : Fc M M' := by
  unfold rX4_next at h
  have F : Fc M M := Fc.rf
  rcases ob_ite h with ⟨c1, h⟩ | ⟨c1, h⟩
  ·
    obtain ⟨r4, M3, e2, h⟩ := ob_bd2 h
    have F := F.tr (fX0_get (by omega) e2)
    obtain ⟨M5, eM5, h⟩ := ob_lx h
    have F := F.s1 eM5 (by decide)
    exact F.reti h
  ·
    obtain ⟨M7, e6, h⟩ := ob_bind h
    have F := F.tr (fX4_fail e6)
    exact F.reti h
theorem fX4_readMark {a1 : Int32} {a2 : Int32} {M M' : Mm} (h : rX4_readMark a1 a2 M = some M') : Fc M M' := by
  unfold rX4_readMark at h
  have F : Fc M M := Fc.rf
  rcases ob_ite h with ⟨c1, h⟩ | ⟨c1, h⟩
  ·
    obtain ⟨r4, M3, e2, h⟩ := ob_bd2 h
    have F := F.tr (fX4_next e2)
    rcases ob_ite h with ⟨c5, h⟩ | ⟨c5, h⟩
    ·
      exact F.retv h
    ·
      rcases ob_ite h with ⟨c6, h⟩ | ⟨c6, h⟩
      ·
        exact F.retv h
      ·
        obtain ⟨M8, e7, h⟩ := ob_bind h
        have F := F.tr (fX4_fail e7)
        exact F.retv h
  ·
    exact F.retv h
theorem fX4_readCheck {pk : Nat} (hoF : pk < 31) {M M' : Mm} (h : rX4_readCheck pk M = some M') : Fc M M' := by
  unfold rX4_readCheck at h
  have F : Fc M M := Fc.rf
  obtain ⟨y1, ey1, h⟩ := ob_lx h
  obtain ⟨r4, M3, e2, h⟩ := ob_bd2 h
  have F := F.tr (fX4_next e2)
  rcases ob_ite h with ⟨c5, h⟩ | ⟨c5, h⟩
  ·
    exact F.retv h
  ·
    obtain ⟨r8, M7, e6, h⟩ := ob_bd2 h
    have F := F.tr (fX0_checkOf (by omega) e6)
    rcases ob_ite h with ⟨c9, h⟩ | ⟨c9, h⟩
    ·
      rcases ob_ite h with ⟨c10, h⟩ | ⟨c10, h⟩
      ·
        exact F.retv h
      ·
        obtain ⟨M12, e11, h⟩ := ob_bind h
        have F := F.tr (fX4_fail e11)
        exact F.retv h
    ·
      obtain ⟨M14, e13, h⟩ := ob_bind h
      have F := F.tr (fX4_fail e13)
      exact F.retv h
theorem fX4_hasBytes {a1 : Int32} {a2 : Int32} {M M' : Mm} {r : Int32} (h : rX4_hasBytes a1 a2 M = some (r, M')) : Fc M M' := by
  unfold rX4_hasBytes at h
  have F : Fc M M := Fc.rf
  rcases ob_ite h with ⟨c1, h⟩ | ⟨c1, h⟩
  ·
    exact F.retz h
  ·
    obtain ⟨M3, e2, h⟩ := ob_bind h
    have F := F.tr (fX4_fail e2)
    exact F.retz h
theorem fX4_readStored_b38 {M' : Mm} : ∀ (n : Nat), ∀ (x3 : Int32) (x4 : Int32) (M : Mm), rX4_readStored_b38 n x3 x4 M = some M' → Fc M M' := by
  intro n
  induction n with
  | zero =>
    intro x3 x4 M h
    cases (show (none : Option Mm) = some M' from h)
  | succ n fq380 =>
    have fq38 : ∀ (x3 : Int32) (x4 : Int32) (M : Mm), (rX4_readStored_b38 n) x3 x4 M = some M' → Fc M M' := fq380
    intro x3 x4 M h
    have h : rX4_readStored_b38_s (rX4_readStored_b38 n) x3 x4 M = some M' := h
    unfold rX4_readStored_b38_s at h
    have F : Fc M M := Fc.rf
    rcases ob_ite h with ⟨c13, h⟩ | ⟨c13, h⟩
    ·
      obtain ⟨M14, eM14, h⟩ := ob_lx h
      have F := F.s1 eM14 (by decide)
      exact F.retv h
    ·
      obtain ⟨r17, M16, e15, h⟩ := ob_bd2 h
      have F := F.tr (fX0_get (by omega) e15)
      obtain ⟨M19, e18, h⟩ := ob_bind h
      have F := F.tr (fX0_append (by omega) e18)
      obtain ⟨y20, ey20, h⟩ := ob_lx h
      exact F.tr (fq38 _ _ _ h)
theorem fX4_readStored {a1 : Int32} {a2 : Int32} {M M' : Mm} (h : rX4_readStored a1 a2 M = some M') : Fc M M' := by
  unfold rX4_readStored at h
  have F : Fc M M := Fc.rf
  obtain ⟨r3, M2, e1, h⟩ := ob_bd2 h
  have F := F.tr (fX4_next e1)
  rcases ob_ite h with ⟨c4, h⟩ | ⟨c4, h⟩
  ·
    exact F.retv h
  ·
    obtain ⟨r7, M6, e5, h⟩ := ob_bd2 h
    have F := F.tr (fX4_hasBytes e5)
    rcases ob_ite h with ⟨c8, h⟩ | ⟨c8, h⟩
    ·
      exact F.retv h
    ·
      obtain ⟨r11, M10, e9, h⟩ := ob_bd2 h
      have F := F.tr (fX4_pay e9)
      rcases ob_ite h with ⟨c12, h⟩ | ⟨c12, h⟩
      ·
        exact F.retv h
      ·
        exact F.tr (fX4_readStored_b38 FU _ _ _ h)
theorem fX4_readRun_b40 {M' : Mm} : ∀ (n : Nat), ∀ (x3 : Int32) (x4 : Int32) (x5 : Int32) (M : Mm), rX4_readRun_b40 n x3 x4 x5 M = some M' → Fc M M' := by
  intro n
  induction n with
  | zero =>
    intro x3 x4 x5 M h
    cases (show (none : Option Mm) = some M' from h)
  | succ n fq400 =>
    have fq40 : ∀ (x3 : Int32) (x4 : Int32) (x5 : Int32) (M : Mm), (rX4_readRun_b40 n) x3 x4 x5 M = some M' → Fc M M' := fq400
    intro x3 x4 x5 M h
    have h : rX4_readRun_b40_s (rX4_readRun_b40 n) x3 x4 x5 M = some M' := h
    unfold rX4_readRun_b40_s at h
    have F : Fc M M := Fc.rf
    rcases ob_ite h with ⟨c13, h⟩ | ⟨c13, h⟩
    ·
      exact F.retv h
    ·
      obtain ⟨M15, e14, h⟩ := ob_bind h
      have F := F.tr (fX0_append (by omega) e14)
      obtain ⟨y16, ey16, h⟩ := ob_lx h
      exact F.tr (fq40 _ _ _ _ h)
theorem fX4_readRun {a1 : Int32} {a2 : Int32} {M M' : Mm} (h : rX4_readRun a1 a2 M = some M') : Fc M M' := by
  unfold rX4_readRun at h
  have F : Fc M M := Fc.rf
  obtain ⟨r3, M2, e1, h⟩ := ob_bd2 h
  have F := F.tr (fX4_next e1)
  obtain ⟨r6, M5, e4, h⟩ := ob_bd2 h
  have F := F.tr (fX4_next e4)
  rcases ob_ite h with ⟨c7, h⟩ | ⟨c7, h⟩
  ·
    exact F.retv h
  ·
    rcases ob_ite h with ⟨c8, h⟩ | ⟨c8, h⟩
    ·
      exact F.retv h
    ·
      obtain ⟨r11, M10, e9, h⟩ := ob_bd2 h
      have F := F.tr (fX4_pay e9)
      rcases ob_ite h with ⟨c12, h⟩ | ⟨c12, h⟩
      ·
        exact F.retv h
      ·
        exact F.tr (fX4_readRun_b40 FU _ _ _ _ h)
theorem fX4_readCopy_b35 {pk : Nat} (hoF : pk < 31) {M' : Mm} : ∀ (M : Mm), rX4_readCopy_b35 pk  M = some M' → Fc M M' := by
    intro M h
    unfold rX4_readCopy_b35 at h
    have F : Fc M M := Fc.rf
    obtain ⟨M7, e6, h⟩ := ob_bind h
    have F := F.tr (fX4_fail e6)
    exact F.retv h
theorem fX4_readCopy_b81 {pk : Nat} (hoF : pk < 31) {M' : Mm} : ∀ (n : Nat), ∀ (x3 : Int32) (x4 : Int32) (x5 : Int32) (M : Mm), rX4_readCopy_b81 pk n x3 x4 x5 M = some M' → Fc M M' := by
  intro n
  induction n with
  | zero =>
    intro x3 x4 x5 M h
    cases (show (none : Option Mm) = some M' from h)
  | succ n fq810 =>
    have fq81 : ∀ (x3 : Int32) (x4 : Int32) (x5 : Int32) (M : Mm), (rX4_readCopy_b81 pk n) x3 x4 x5 M = some M' → Fc M M' := fq810
    intro x3 x4 x5 M h
    have h : rX4_readCopy_b81_s pk (rX4_readCopy_b81 pk n) x3 x4 x5 M = some M' := h
    unfold rX4_readCopy_b81_s at h
    have F : Fc M M := Fc.rf
    rcases ob_ite h with ⟨c17, h⟩ | ⟨c17, h⟩
    ·
      exact F.retv h
    ·
      obtain ⟨r20, M19, e18, h⟩ := ob_bd2 h
      have F := F.tr (fX0_get (by omega) e18)
      obtain ⟨M22, e21, h⟩ := ob_bind h
      have F := F.tr (fX0_append (by omega) e21)
      obtain ⟨y23, ey23, h⟩ := ob_lx h
      exact F.tr (fq81 _ _ _ _ h)
theorem fX4_readCopy {a1 : Int32} {pk : Nat} (hoF : pk < 31) {M M' : Mm} (h : rX4_readCopy a1 pk M = some M') : Fc M M' := by
  unfold rX4_readCopy at h
  have F : Fc M M := Fc.rf
  obtain ⟨r3, M2, e1, h⟩ := ob_bd2 h
  have F := F.tr (fX4_next e1)
  rcases ob_ite h with ⟨c4, h⟩ | ⟨c4, h⟩
  ·
    exact F.retv h
  ·
    rcases ob_ite h with ⟨c5, h⟩ | ⟨c5, h⟩
    ·
      exact F.tr (fX4_readCopy_b35 hoF  _ h)
    ·
      rcases ob_ite h with ⟨c8, h⟩ | ⟨c8, h⟩
      ·
        obtain ⟨r11, M10, e9, h⟩ := ob_bd2 h
        have F := F.tr (fX4_next e9)
        rcases ob_ite h with ⟨c12, h⟩ | ⟨c12, h⟩
        ·
          exact F.retv h
        ·
          obtain ⟨r15, M14, e13, h⟩ := ob_bd2 h
          have F := F.tr (fX4_pay e13)
          rcases ob_ite h with ⟨c16, h⟩ | ⟨c16, h⟩
          ·
            exact F.retv h
          ·
            exact F.tr (fX4_readCopy_b81 hoF FU _ _ _ _ h)
      ·
        exact F.tr (fX4_readCopy_b35 hoF  _ h)
theorem fX4_readNest {rp : Int32 → Int32 → Int32 → Int32 → Mm → Option Mm} (frp : ∀ (a1 a2 a3 a4 : Int32) (M M' : Mm), rp a1 a2 a3 a4 M = some M' → Fc M M') {a1 : Int32} {pk : Nat} {a3 : Int32} (hoF : pk < 31) {M M' : Mm} (h : rX4_readNest rp a1 pk a3 M = some M') : Fc M M' := by
  unfold rX4_readNest at h
  have F : Fc M M := Fc.rf
  obtain ⟨r3, M2, e1, h⟩ := ob_bd2 h
  have F := F.tr (fX4_next e1)
  obtain ⟨r6, M5, e4, h⟩ := ob_bd2 h
  have F := F.tr (fX4_next e4)
  rcases ob_ite h with ⟨c7, h⟩ | ⟨c7, h⟩
  ·
    exact F.retv h
  ·
    rcases ob_ite h with ⟨c8, h⟩ | ⟨c8, h⟩
    ·
      exact F.retv h
    ·
      obtain ⟨y9, ey9, h⟩ := ob_lx h
      obtain ⟨r12, M11, e10, h⟩ := ob_bd2 h
      have F := F.tr (fX4_hasBytes e10)
      rcases ob_ite h with ⟨c13, h⟩ | ⟨c13, h⟩
      ·
        exact F.retv h
      ·
        obtain ⟨r16, M15, e14, h⟩ := ob_bd2 h
        have F := F.tr (fX4_canPay e14)
        rcases ob_ite h with ⟨c17, h⟩ | ⟨c17, h⟩
        ·
          exact F.retv h
        ·
          rcases ob_ite h with ⟨c18, h⟩ | ⟨c18, h⟩
          ·
            obtain ⟨M19, eM19, h⟩ := ob_lx h
            have F := F.s1 eM19 (by decide)
            obtain ⟨M21, e20, h⟩ := ob_bind h
            have F := F.tr (frp _ _ _ _ _ _ e20)
            exact F.retv h
          ·
            obtain ⟨M23, e22, h⟩ := ob_bind h
            have F := F.tr (fX4_fail e22)
            exact F.retv h
theorem fX4_readNote {a1 : Int32} {a2 : Int32} {M M' : Mm} (h : rX4_readNote a1 a2 M = some M') : Fc M M' := by
  unfold rX4_readNote at h
  have F : Fc M M := Fc.rf
  obtain ⟨r3, M2, e1, h⟩ := ob_bd2 h
  have F := F.tr (fX4_next e1)
  rcases ob_ite h with ⟨c4, h⟩ | ⟨c4, h⟩
  ·
    exact F.retv h
  ·
    obtain ⟨r7, M6, e5, h⟩ := ob_bd2 h
    have F := F.tr (fX4_hasBytes e5)
    rcases ob_ite h with ⟨c8, h⟩ | ⟨c8, h⟩
    ·
      exact F.retv h
    ·
      obtain ⟨r11, M10, e9, h⟩ := ob_bd2 h
      have F := F.tr (fX4_pay e9)
      rcases ob_ite h with ⟨c12, h⟩ | ⟨c12, h⟩
      ·
        exact F.retv h
      ·
        obtain ⟨M13, eM13, h⟩ := ob_lx h
        have F := F.s1 eM13 (by decide)
        exact F.retv h
theorem fX4_readAgain_b46 {pk : Nat} (hoF : pk < 31) {M' : Mm} : ∀ (M : Mm), rX4_readAgain_b46 pk  M = some M' → Fc M M' := by
    intro M h
    unfold rX4_readAgain_b46 at h
    have F : Fc M M := Fc.rf
    obtain ⟨M8, e7, h⟩ := ob_bind h
    have F := F.tr (fX4_fail e7)
    exact F.retv h
theorem fX4_readAgain_b90 {pk : Nat} (hoF : pk < 31) {M' : Mm} : ∀ (n : Nat), ∀ (x5 : Int32) (x6 : Int32) (M : Mm), rX4_readAgain_b90 pk n x5 x6 M = some M' → Fc M M' := by
  intro n
  induction n with
  | zero =>
    intro x5 x6 M h
    cases (show (none : Option Mm) = some M' from h)
  | succ n fq900 =>
    have fq90 : ∀ (x5 : Int32) (x6 : Int32) (M : Mm), (rX4_readAgain_b90 pk n) x5 x6 M = some M' → Fc M M' := fq900
    intro x5 x6 M h
    have h : rX4_readAgain_b90_s pk (rX4_readAgain_b90 pk n) x5 x6 M = some M' := h
    unfold rX4_readAgain_b90_s at h
    have F : Fc M M := Fc.rf
    rcases ob_ite h with ⟨c17, h⟩ | ⟨c17, h⟩
    ·
      exact F.retv h
    ·
      obtain ⟨r20, M19, e18, h⟩ := ob_bd2 h
      have F := F.tr (fX0_get (by omega) e18)
      obtain ⟨M22, e21, h⟩ := ob_bind h
      have F := F.tr (fX0_append (by omega) e21)
      obtain ⟨y23, ey23, h⟩ := ob_lx h
      exact F.tr (fq90 _ _ _ h)
theorem fX4_readAgain {a1 : Int32} {pk : Nat} (hoF : pk < 31) {M M' : Mm} (h : rX4_readAgain a1 pk M = some M') : Fc M M' := by
  unfold rX4_readAgain at h
  have F : Fc M M := Fc.rf
  obtain ⟨r3, M2, e1, h⟩ := ob_bd2 h
  have F := F.tr (fX4_next e1)
  rcases ob_ite h with ⟨c4, h⟩ | ⟨c4, h⟩
  ·
    exact F.retv h
  ·
    obtain ⟨y5, ey5, h⟩ := ob_lx h
    rcases ob_ite h with ⟨c6, h⟩ | ⟨c6, h⟩
    ·
      exact F.tr (fX4_readAgain_b46 hoF  _ h)
    ·
      rcases ob_ite h with ⟨c9, h⟩ | ⟨c9, h⟩
      ·
        exact F.tr (fX4_readAgain_b46 hoF  _ h)
      ·
        rcases ob_ite h with ⟨c10, h⟩ | ⟨c10, h⟩
        ·
          obtain ⟨g11, h⟩ := ob_gd h
          obtain ⟨y12, ey12, h⟩ := ob_lx h
          obtain ⟨r15, M14, e13, h⟩ := ob_bd2 h
          have F := F.tr (fX4_pay e13)
          rcases ob_ite h with ⟨c16, h⟩ | ⟨c16, h⟩
          ·
            exact F.retv h
          ·
            exact F.tr (fX4_readAgain_b90 hoF FU _ _ _ h)
        ·
          exact F.tr (fX4_readAgain_b46 hoF  _ h)
theorem fX5_begin {a1 : Int32} {M M' : Mm} (h : rX5_begin a1 M = some M') : Fc M M' := by
  unfold rX5_begin at h
  have F : Fc M M := Fc.rf
  obtain ⟨M1, eM1, h⟩ := ob_lx h
  have F := F.s1 eM1 (by decide)
  obtain ⟨M2, eM2, h⟩ := ob_lx h
  have F := F.s1 eM2 (by decide)
  exact F.retv h
theorem fX5_putSymbol {a1 : Int32} {a2 : Int32} {M M' : Mm} (h : rX5_putSymbol a1 a2 M = some M') : Fc M M' := by
  unfold rX5_putSymbol at h
  have F : Fc M M := Fc.rf
  rcases ob_ite h with ⟨c1, h⟩ | ⟨c1, h⟩
  ·
    exact F.retv h
  ·
    rcases ob_ite h with ⟨c2, h⟩ | ⟨c2, h⟩
    ·
      exact F.retv h
    ·
      obtain ⟨g3, h⟩ := ob_gd h
      obtain ⟨M4, eM4, h⟩ := ob_lx h
      have F := F.s1 eM4 (by decide)
      exact F.retv h
theorem fX5_putLength {a1 : Int32} {a2 : Int32} {M M' : Mm} (h : rX5_putLength a1 a2 M = some M') : Fc M M' := by
  unfold rX5_putLength at h
  have F : Fc M M := Fc.rf
  rcases ob_ite h with ⟨c1, h⟩ | ⟨c1, h⟩
  ·
    exact F.retv h
  ·
    rcases ob_ite h with ⟨c2, h⟩ | ⟨c2, h⟩
    ·
      exact F.retv h
    ·
      obtain ⟨g3, h⟩ := ob_gd h
      obtain ⟨M4, eM4, h⟩ := ob_lx h
      have F := F.s1 eM4 (by decide)
      obtain ⟨M5, eM5, h⟩ := ob_lx h
      have F := F.s1 eM5 (by decide)
      exact F.retv h
theorem fX5_isGood_b65 {M' : Mm} {r : Int32} : ∀ (M : Mm), rX5_isGood_b65  M = some (r, M') → Fc M M' := by
    intro M h
    unfold rX5_isGood_b65 at h
    have F : Fc M M := Fc.rf
    exact F.retz h
theorem fX5_isGood_b39 {M' : Mm} {r : Int32} {q6 : Int32 → Int32 → Int32 → Mm → Option (Int32 × Mm)} (fq6 : ∀ (x1 : Int32) (x2 : Int32) (x3 : Int32) (M : Mm), q6 x1 x2 x3 M = some (r, M') → Fc M M') : ∀ (x1 : Int32) (x2 : Int32) (x3 : Int32) (M : Mm), rX5_isGood_b39 q6 x1 x2 x3 M = some (r, M') → Fc M M' := by
    intro x1 x2 x3 M h
    unfold rX5_isGood_b39 at h
    have F : Fc M M := Fc.rf
    obtain ⟨y7, ey7, h⟩ := ob_lx h
    exact F.tr (fq6 _ _ _ _ h)
theorem fX5_isGood_b6 {M' : Mm} {r : Int32} : ∀ (n : Nat), ∀ (x1 : Int32) (x2 : Int32) (x3 : Int32) (M : Mm), rX5_isGood_b6 n x1 x2 x3 M = some (r, M') → Fc M M' := by
  intro n
  induction n with
  | zero =>
    intro x1 x2 x3 M h
    cases (show (none : Option (Int32 × Mm)) = some (r, M') from h)
  | succ n fq60 =>
    have fq6 : ∀ (x1 : Int32) (x2 : Int32) (x3 : Int32) (M : Mm), (rX5_isGood_b6 n) x1 x2 x3 M = some (r, M') → Fc M M' := fq60
    intro x1 x2 x3 M h
    have h : rX5_isGood_b6_s (rX5_isGood_b6 n) x1 x2 x3 M = some (r, M') := h
    unfold rX5_isGood_b6_s at h
    have F : Fc M M := Fc.rf
    rcases ob_ite h with ⟨c1, h⟩ | ⟨c1, h⟩
    ·
      rcases ob_ite h with ⟨c2, h⟩ | ⟨c2, h⟩
      ·
        exact F.tr (fX5_isGood_b65  _ h)
      ·
        rcases ob_ite h with ⟨c3, h⟩ | ⟨c3, h⟩
        ·
          rcases ob_ite h with ⟨c4, h⟩ | ⟨c4, h⟩
          ·
            exact F.tr (fX5_isGood_b65  _ h)
          ·
            exact F.retz h
        ·
          exact F.retz h
    ·
      obtain ⟨g5, h⟩ := ob_gd h
      rcases ob_ite h with ⟨c6, h⟩ | ⟨c6, h⟩
      ·
        exact F.tr (fX5_isGood_b39 fq6 _ _ _ _ h)
      ·
        obtain ⟨g8, h⟩ := ob_gd h
        obtain ⟨y9, ey9, h⟩ := ob_lx h
        obtain ⟨y10, ey10, h⟩ := ob_lx h
        exact F.tr (fX5_isGood_b39 fq6 _ _ _ _ h)
theorem fX5_isGood {M M' : Mm} {r : Int32} (h : rX5_isGood M = some (r, M')) : Fc M M' := by
  unfold rX5_isGood at h
  have F : Fc M M := Fc.rf
  exact F.tr (fX5_isGood_b6 FU _ _ _ _ h)
theorem fX5_makeCodes_b46 {M' : Mm} {q18 : Int32 → Int32 → Int32 → Mm → Option Mm} (fq18 : ∀ (x1 : Int32) (x2 : Int32) (x3 : Int32) (M : Mm), q18 x1 x2 x3 M = some M' → Fc M M') : ∀ (x1 : Int32) (x2 : Int32) (x3 : Int32) (M : Mm), rX5_makeCodes_b46 q18 x1 x2 x3 M = some M' → Fc M M' := by
    intro x1 x2 x3 M h
    unfold rX5_makeCodes_b46 at h
    have F : Fc M M := Fc.rf
    obtain ⟨y7, ey7, h⟩ := ob_lx h
    exact F.tr (fq18 _ _ _ _ h)
theorem fX5_makeCodes_b18 {M' : Mm} {q4 : Int32 → Int32 → Mm → Option Mm} (fq4 : ∀ (x1 : Int32) (x2 : Int32) (M : Mm), q4 x1 x2 M = some M' → Fc M M') : ∀ (n : Nat), ∀ (x1 : Int32) (x2 : Int32) (x3 : Int32) (M : Mm), rX5_makeCodes_b18 q4 n x1 x2 x3 M = some M' → Fc M M' := by
  intro n
  induction n with
  | zero =>
    intro x1 x2 x3 M h
    cases (show (none : Option Mm) = some M' from h)
  | succ n fq180 =>
    have fq18 : ∀ (x1 : Int32) (x2 : Int32) (x3 : Int32) (M : Mm), (rX5_makeCodes_b18 q4 n) x1 x2 x3 M = some M' → Fc M M' := fq180
    intro x1 x2 x3 M h
    have h : rX5_makeCodes_b18_s q4 (rX5_makeCodes_b18 q4 n) x1 x2 x3 M = some M' := h
    unfold rX5_makeCodes_b18_s at h
    have F : Fc M M := Fc.rf
    rcases ob_ite h with ⟨c3, h⟩ | ⟨c3, h⟩
    ·
      obtain ⟨y4, ey4, h⟩ := ob_lx h
      exact F.tr (fq4 _ _ _ h)
    ·
      obtain ⟨g5, h⟩ := ob_gd h
      rcases ob_ite h with ⟨c6, h⟩ | ⟨c6, h⟩
      ·
        obtain ⟨g8, h⟩ := ob_gd h
        obtain ⟨M9, eM9, h⟩ := ob_lx h
        have F := F.s1 eM9 (by decide)
        obtain ⟨y10, ey10, h⟩ := ob_lx h
        exact F.tr (fX5_makeCodes_b46 fq18 _ _ _ _ h)
      ·
        exact F.tr (fX5_makeCodes_b46 fq18 _ _ _ _ h)
theorem fX5_makeCodes_b4 {M' : Mm} : ∀ (n : Nat), ∀ (x1 : Int32) (x2 : Int32) (M : Mm), rX5_makeCodes_b4 n x1 x2 M = some M' → Fc M M' := by
  intro n
  induction n with
  | zero =>
    intro x1 x2 M h
    cases (show (none : Option Mm) = some M' from h)
  | succ n fq40 =>
    have fq4 : ∀ (x1 : Int32) (x2 : Int32) (M : Mm), (rX5_makeCodes_b4 n) x1 x2 M = some M' → Fc M M' := fq40
    intro x1 x2 M h
    have h : rX5_makeCodes_b4_s (rX5_makeCodes_b4 n) x1 x2 M = some M' := h
    unfold rX5_makeCodes_b4_s at h
    have F : Fc M M := Fc.rf
    rcases ob_ite h with ⟨c1, h⟩ | ⟨c1, h⟩
    ·
      exact F.retv h
    ·
      obtain ⟨y2, ey2, h⟩ := ob_lx h
      exact F.tr (fX5_makeCodes_b18 fq4 FU _ _ _ _ h)
theorem fX5_makeCodes {M M' : Mm} (h : rX5_makeCodes M = some M') : Fc M M' := by
  unfold rX5_makeCodes at h
  have F : Fc M M := Fc.rf
  exact F.tr (fX5_makeCodes_b4 FU _ _ _ h)
theorem fX4_readTable_b24 {M' : Mm} {r : Int32} : ∀ (M : Mm), rX4_readTable_b24  M = some (r, M') → Fc M M' := by
    intro M h
    unfold rX4_readTable_b24 at h
    have F : Fc M M := Fc.rf
    obtain ⟨M7, e6, h⟩ := ob_bind h
    have F := F.tr (fX4_fail e6)
    exact F.reti h
theorem fX4_readTable_b165 {M' : Mm} {r : Int32} : ∀ (x1 : Int32) (x2 : Int32) (x3 : Int32) (M : Mm), rX4_readTable_b165 x1 x2 x3 M = some (r, M') → Fc M M' := by
    intro x1 x2 x3 M h
    unfold rX4_readTable_b165 at h
    have F : Fc M M := Fc.rf
    rcases ob_ite h with ⟨c15, h⟩ | ⟨c15, h⟩
    ·
      obtain ⟨M17, e16, h⟩ := ob_bind h
      have F := F.tr (fX5_makeCodes e16)
      obtain ⟨r20, M19, e18, h⟩ := ob_bd2 h
      have F := F.tr (fX4_next e18)
      rcases ob_ite h with ⟨c21, h⟩ | ⟨c21, h⟩
      ·
        exact F.reti h
      ·
        obtain ⟨r24, M23, e22, h⟩ := ob_bd2 h
        have F := F.tr (fX4_pay e22)
        rcases ob_ite h with ⟨c25, h⟩ | ⟨c25, h⟩
        ·
          exact F.reti h
        ·
          exact F.reti h
    ·
      exact F.reti h
theorem fX4_readTable_b140 {M' : Mm} {r : Int32} : ∀ (x1 : Int32) (x2 : Int32) (x3 : Int32) (x4 : Int32) (M : Mm), rX4_readTable_b140 x1 x2 x3 x4 M = some (r, M') → Fc M M' := by
    intro x1 x2 x3 x4 M h
    unfold rX4_readTable_b140 at h
    have F : Fc M M := Fc.rf
    rcases ob_ite h with ⟨c14, h⟩ | ⟨c14, h⟩
    ·
      obtain ⟨r28, M27, e26, h⟩ := ob_bd2 h
      have F := F.tr (fX5_isGood e26)
      rcases ob_ite h with ⟨c29, h⟩ | ⟨c29, h⟩
      ·
        obtain ⟨M31, e30, h⟩ := ob_bind h
        have F := F.tr (fX4_fail e30)
        exact F.tr (fX4_readTable_b165 _ _ _ _ h)
      ·
        exact F.tr (fX4_readTable_b165 _ _ _ _ h)
    ·
      exact F.tr (fX4_readTable_b165 _ _ _ _ h)
theorem fX4_readTable_b123 {M' : Mm} {r : Int32} {q84 : Int32 → Int32 → Int32 → Int32 → Int32 → Mm → Option (Int32 × Mm)} (fq84 : ∀ (x1 : Int32) (x2 : Int32) (x3 : Int32) (x4 : Int32) (x5 : Int32) (M : Mm), q84 x1 x2 x3 x4 x5 M = some (r, M') → Fc M M') : ∀ (x1 : Int32) (x2 : Int32) (x3 : Int32) (x4 : Int32) (x5 : Int32) (x6 : Int32) (M : Mm), rX4_readTable_b123 q84 x1 x2 x3 x4 x5 x6 M = some (r, M') → Fc M M' := by
    intro x1 x2 x3 x4 x5 x6 M h
    unfold rX4_readTable_b123 at h
    have F : Fc M M := Fc.rf
    obtain ⟨M38, e37, h⟩ := ob_bind h
    have F := F.tr (fX5_putLength e37)
    obtain ⟨y39, ey39, h⟩ := ob_lx h
    exact F.tr (fq84 _ _ _ _ _ _ h)
theorem fX4_readTable_b84 {M' : Mm} {r : Int32} : ∀ (n : Nat), ∀ (x1 : Int32) (x2 : Int32) (x3 : Int32) (x4 : Int32) (x5 : Int32) (M : Mm), rX4_readTable_b84 n x1 x2 x3 x4 x5 M = some (r, M') → Fc M M' := by
  intro n
  induction n with
  | zero =>
    intro x1 x2 x3 x4 x5 M h
    cases (show (none : Option (Int32 × Mm)) = some (r, M') from h)
  | succ n fq840 =>
    have fq84 : ∀ (x1 : Int32) (x2 : Int32) (x3 : Int32) (x4 : Int32) (x5 : Int32) (M : Mm), (rX4_readTable_b84 n) x1 x2 x3 x4 x5 M = some (r, M') → Fc M M' := fq840
    intro x1 x2 x3 x4 x5 M h
    have h : rX4_readTable_b84_s (rX4_readTable_b84 n) x1 x2 x3 x4 x5 M = some (r, M') := h
    unfold rX4_readTable_b84_s at h
    have F : Fc M M := Fc.rf
    rcases ob_ite h with ⟨c13, h⟩ | ⟨c13, h⟩
    ·
      exact F.tr (fX4_readTable_b140 _ _ _ _ _ h)
    ·
      rcases ob_ite h with ⟨c32, h⟩ | ⟨c32, h⟩
      ·
        obtain ⟨r35, M34, e33, h⟩ := ob_bd2 h
        have F := F.tr (fX4_next e33)
        rcases ob_ite h with ⟨c36, h⟩ | ⟨c36, h⟩
        ·
          exact F.tr (fX4_readTable_b123 fq84 _ _ _ _ _ _ _ h)
        ·
          obtain ⟨M41, e40, h⟩ := ob_bind h
          have F := F.tr (fX4_fail e40)
          exact F.tr (fX4_readTable_b123 fq84 _ _ _ _ _ _ _ h)
      ·
        exact F.tr (fX4_readTable_b140 _ _ _ _ _ h)
theorem fX4_readTable_b49 {M' : Mm} {r : Int32} : ∀ (n : Nat), ∀ (x1 : Int32) (x2 : Int32) (x3 : Int32) (x4 : Int32) (M : Mm), rX4_readTable_b49 n x1 x2 x3 x4 M = some (r, M') → Fc M M' := by
  intro n
  induction n with
  | zero =>
    intro x1 x2 x3 x4 M h
    cases (show (none : Option (Int32 × Mm)) = some (r, M') from h)
  | succ n fq490 =>
    have fq49 : ∀ (x1 : Int32) (x2 : Int32) (x3 : Int32) (x4 : Int32) (M : Mm), (rX4_readTable_b49 n) x1 x2 x3 x4 M = some (r, M') → Fc M M' := fq490
    intro x1 x2 x3 x4 M h
    have h : rX4_readTable_b49_s (rX4_readTable_b49 n) x1 x2 x3 x4 M = some (r, M') := h
    unfold rX4_readTable_b49_s at h
    have F : Fc M M := Fc.rf
    rcases ob_ite h with ⟨c11, h⟩ | ⟨c11, h⟩
    ·
      obtain ⟨y12, ey12, h⟩ := ob_lx h
      exact F.tr (fX4_readTable_b84 FU _ _ _ _ _ _ h)
    ·
      obtain ⟨r44, M43, e42, h⟩ := ob_bd2 h
      have F := F.tr (fX4_next e42)
      obtain ⟨M46, e45, h⟩ := ob_bind h
      have F := F.tr (fX5_putSymbol e45)
      obtain ⟨y47, ey47, h⟩ := ob_lx h
      exact F.tr (fq49 _ _ _ _ _ h)
theorem fX4_readTable {a1 : Int32} {a2 : Int32} {M M' : Mm} {r : Int32} (h : rX4_readTable a1 a2 M = some (r, M')) : Fc M M' := by
  unfold rX4_readTable at h
  have F : Fc M M := Fc.rf
  obtain ⟨r3, M2, e1, h⟩ := ob_bd2 h
  have F := F.tr (fX4_next e1)
  rcases ob_ite h with ⟨c4, h⟩ | ⟨c4, h⟩
  ·
    exact F.reti h
  ·
    rcases ob_ite h with ⟨c5, h⟩ | ⟨c5, h⟩
    ·
      exact F.tr (fX4_readTable_b24  _ h)
    ·
      rcases ob_ite h with ⟨c8, h⟩ | ⟨c8, h⟩
      ·
        obtain ⟨M10, e9, h⟩ := ob_bind h
        have F := F.tr (fX5_begin e9)
        exact F.tr (fX4_readTable_b49 FU _ _ _ _ _ h)
      ·
        exact F.tr (fX4_readTable_b24  _ h)
theorem fX5_symbolOf_b37 {M' : Mm} {r : Int32} {q2 : Int32 → Int32 → Int32 → Mm → Option (Int32 × Mm)} (fq2 : ∀ (x1 : Int32) (x2 : Int32) (x3 : Int32) (M : Mm), q2 x1 x2 x3 M = some (r, M') → Fc M M') : ∀ (x1 : Int32) (x2 : Int32) (x3 : Int32) (M : Mm), rX5_symbolOf_b37 q2 x1 x2 x3 M = some (r, M') → Fc M M' := by
    intro x1 x2 x3 M h
    unfold rX5_symbolOf_b37 at h
    have F : Fc M M := Fc.rf
    obtain ⟨y4, ey4, h⟩ := ob_lx h
    exact F.tr (fq2 _ _ _ _ h)
theorem fX5_symbolOf_b2 {M' : Mm} {r : Int32} : ∀ (n : Nat), ∀ (x1 : Int32) (x2 : Int32) (x3 : Int32) (M : Mm), rX5_symbolOf_b2 n x1 x2 x3 M = some (r, M') → Fc M M' := by
  intro n
  induction n with
  | zero =>
    intro x1 x2 x3 M h
    cases (show (none : Option (Int32 × Mm)) = some (r, M') from h)
  | succ n fq20 =>
    have fq2 : ∀ (x1 : Int32) (x2 : Int32) (x3 : Int32) (M : Mm), (rX5_symbolOf_b2 n) x1 x2 x3 M = some (r, M') → Fc M M' := fq20
    intro x1 x2 x3 M h
    have h : rX5_symbolOf_b2_s (rX5_symbolOf_b2 n) x1 x2 x3 M = some (r, M') := h
    unfold rX5_symbolOf_b2_s at h
    have F : Fc M M := Fc.rf
    rcases ob_ite h with ⟨c1, h⟩ | ⟨c1, h⟩
    ·
      exact F.reti h
    ·
      obtain ⟨g2, h⟩ := ob_gd h
      rcases ob_ite h with ⟨c3, h⟩ | ⟨c3, h⟩
      ·
        obtain ⟨g5, h⟩ := ob_gd h
        rcases ob_ite h with ⟨c6, h⟩ | ⟨c6, h⟩
        ·
          obtain ⟨g7, h⟩ := ob_gd h
          exact F.reti h
        ·
          exact F.tr (fX5_symbolOf_b37 fq2 _ _ _ _ h)
      ·
        exact F.tr (fX5_symbolOf_b37 fq2 _ _ _ _ h)
theorem fX5_symbolOf {a1 : Int32} {a2 : Int32} {M M' : Mm} {r : Int32} (h : rX5_symbolOf a1 a2 M = some (r, M')) : Fc M M' := by
  unfold rX5_symbolOf at h
  have F : Fc M M := Fc.rf
  exact F.tr (fX5_symbolOf_b2 FU _ _ _ _ h)
theorem fX4_nextSymbol_b70 {M' : Mm} {r : Int32} {q26 : Int32 → Int32 → Int32 → Int32 → Mm → Option (Int32 × Mm)} (fq26 : ∀ (x1 : Int32) (x2 : Int32) (x3 : Int32) (x4 : Int32) (M : Mm), q26 x1 x2 x3 x4 M = some (r, M') → Fc M M') : ∀ (x1 : Int32) (x2 : Int32) (x3 : Int32) (x4 : Int32) (M : Mm), rX4_nextSymbol_b70 q26 x1 x2 x3 x4 M = some (r, M') → Fc M M' := by
    intro x1 x2 x3 x4 M h
    unfold rX4_nextSymbol_b70 at h
    have F : Fc M M := Fc.rf
    obtain ⟨M6, eM6, h⟩ := ob_lx h
    have F := F.s1 eM6 (by decide)
    obtain ⟨y7, ey7, h⟩ := ob_lx h
    obtain ⟨r10, M9, e8, h⟩ := ob_bd2 h
    have F := F.tr (fX5_symbolOf e8)
    rcases ob_ite h with ⟨c11, h⟩ | ⟨c11, h⟩
    ·
      obtain ⟨y12, ey12, h⟩ := ob_lx h
      exact F.tr (fq26 _ _ _ _ _ h)
    ·
      exact F.reti h
theorem fX4_nextSymbol_b26 {M' : Mm} {r : Int32} : ∀ (n : Nat), ∀ (x1 : Int32) (x2 : Int32) (x3 : Int32) (x4 : Int32) (M : Mm), rX4_nextSymbol_b26 n x1 x2 x3 x4 M = some (r, M') → Fc M M' := by
  intro n
  induction n with
  | zero =>
    intro x1 x2 x3 x4 M h
    cases (show (none : Option (Int32 × Mm)) = some (r, M') from h)
  | succ n fq260 =>
    have fq26 : ∀ (x1 : Int32) (x2 : Int32) (x3 : Int32) (x4 : Int32) (M : Mm), (rX4_nextSymbol_b26 n) x1 x2 x3 x4 M = some (r, M') → Fc M M' := fq260
    intro x1 x2 x3 x4 M h
    have h : rX4_nextSymbol_b26_s (rX4_nextSymbol_b26 n) x1 x2 x3 x4 M = some (r, M') := h
    unfold rX4_nextSymbol_b26_s at h
    have F : Fc M M := Fc.rf
    rcases ob_ite h with ⟨c2, h⟩ | ⟨c2, h⟩
    ·
      obtain ⟨M4, e3, h⟩ := ob_bind h
      have F := F.tr (fX4_fail e3)
      exact F.reti h
    ·
      rcases ob_ite h with ⟨c5, h⟩ | ⟨c5, h⟩
      ·
        obtain ⟨r15, M14, e13, h⟩ := ob_bd2 h
        have F := F.tr (fX4_next e13)
        obtain ⟨M16, eM16, h⟩ := ob_lx h
        have F := F.s1 eM16 (by decide)
        rcases ob_ite h with ⟨c17, h⟩ | ⟨c17, h⟩
        ·
          exact F.reti h
        ·
          obtain ⟨M18, eM18, h⟩ := ob_lx h
          have F := F.s1 eM18 (by decide)
          exact F.tr (fX4_nextSymbol_b70 fq26 _ _ _ _ _ h)
      ·
        exact F.tr (fX4_nextSymbol_b70 fq26 _ _ _ _ _ h)
theorem fX4_nextSymbol_b20 {M' : Mm} {r : Int32} : ∀ (x1 : Int32) (s0 : Int32) (M : Mm), rX4_nextSymbol_b20 x1 s0 M = some (r, M') → Fc M M' := by
    intro x1 s0 M h
    unfold rX4_nextSymbol_b20 at h
    have F : Fc M M := Fc.rf
    exact F.tr (fX4_nextSymbol_b26 FU _ _ _ _ _ h)
theorem fX4_nextSymbol {a1 : Int32} {M M' : Mm} {r : Int32} (h : rX4_nextSymbol a1 M = some (r, M')) : Fc M M' := by
  unfold rX4_nextSymbol at h
  have F : Fc M M := Fc.rf
  rcases ob_ite h with ⟨c1, h⟩ | ⟨c1, h⟩
  ·
    exact F.tr (fX4_nextSymbol_b20 _ _ _ h)
  ·
    exact F.tr (fX4_nextSymbol_b20 _ _ _ h)
theorem fX4_readBits_b12 {M' : Mm} : ∀ (n : Nat), ∀ (x1 : Int32) (x2 : Int32) (x3 : Int32) (M : Mm), rX4_readBits_b12 n x1 x2 x3 M = some M' → Fc M M' := by
  intro n
  induction n with
  | zero =>
    intro x1 x2 x3 M h
    cases (show (none : Option Mm) = some M' from h)
  | succ n fq120 =>
    have fq12 : ∀ (x1 : Int32) (x2 : Int32) (x3 : Int32) (M : Mm), (rX4_readBits_b12 n) x1 x2 x3 M = some M' → Fc M M' := fq120
    intro x1 x2 x3 M h
    have h : rX4_readBits_b12_s (rX4_readBits_b12 n) x1 x2 x3 M = some M' := h
    unfold rX4_readBits_b12_s at h
    have F : Fc M M := Fc.rf
    rcases ob_ite h with ⟨c3, h⟩ | ⟨c3, h⟩
    ·
      rcases ob_ite h with ⟨c4, h⟩ | ⟨c4, h⟩
      ·
        exact F.retv h
      ·
        obtain ⟨M6, e5, h⟩ := ob_bind h
        have F := F.tr (fX4_fail e5)
        exact F.retv h
    ·
      obtain ⟨r9, M8, e7, h⟩ := ob_bd2 h
      have F := F.tr (fX4_nextSymbol e7)
      rcases ob_ite h with ⟨c10, h⟩ | ⟨c10, h⟩
      ·
        exact F.retv h
      ·
        obtain ⟨M12, e11, h⟩ := ob_bind h
        have F := F.tr (fX0_append (by omega) e11)
        obtain ⟨y13, ey13, h⟩ := ob_lx h
        exact F.tr (fq12 _ _ _ _ h)
theorem fX4_readBits {a1 : Int32} {a2 : Int32} {M M' : Mm} (h : rX4_readBits a1 a2 M = some M') : Fc M M' := by
  unfold rX4_readBits at h
  have F : Fc M M := Fc.rf
  obtain ⟨M1, eM1, h⟩ := ob_lx h
  have F := F.s1 eM1 (by decide)
  obtain ⟨M2, eM2, h⟩ := ob_lx h
  have F := F.s1 eM2 (by decide)
  exact F.tr (fX4_readBits_b12 FU _ _ _ _ h)
theorem fX4_readItem_b199 {pk : Nat} (hoF : pk < 31) {rp : Int32 → Int32 → Int32 → Int32 → Mm → Option Mm} (frp : ∀ (a1 a2 a3 a4 : Int32) (M M' : Mm), rp a1 a2 a3 a4 M = some M' → Fc M M') {M' : Mm} : ∀ (x1 : Int32) (x2 : Int32) (x4 : Int32) (x5 : Int32) (x6 : Int32) (M : Mm), rX4_readItem_b199 rp pk x1 x2 x4 x5 x6 M = some M' → Fc M M' := by
    intro x1 x2 x4 x5 x6 M h
    unfold rX4_readItem_b199 at h
    have F : Fc M M := Fc.rf
    obtain ⟨M9, eM9, h⟩ := ob_lx h
    have F := F.s1 eM9 (by omega)
    rcases ob_ite h with ⟨c10, h⟩ | ⟨c10, h⟩
    ·
      obtain ⟨M12, e11, h⟩ := ob_bind h
      have F := F.tr (fX1_append e11)
      exact F.retv h
    ·
      exact F.retv h
theorem fX4_readItem_b151 {pk : Nat} (hoF : pk < 31) {rp : Int32 → Int32 → Int32 → Int32 → Mm → Option Mm} (frp : ∀ (a1 a2 a3 a4 : Int32) (M M' : Mm), rp a1 a2 a3 a4 M = some M' → Fc M M') {M' : Mm} : ∀ (x1 : Int32) (x2 : Int32) (x4 : Int32) (x5 : Int32) (x6 : Int32) (M : Mm), rX4_readItem_b151 rp pk x1 x2 x4 x5 x6 M = some M' → Fc M M' := by
    intro x1 x2 x4 x5 x6 M h
    unfold rX4_readItem_b151 at h
    have F : Fc M M := Fc.rf
    rcases ob_ite h with ⟨c6, h⟩ | ⟨c6, h⟩
    ·
      obtain ⟨y7, ey7, h⟩ := ob_lx h
      rcases ob_ite h with ⟨c8, h⟩ | ⟨c8, h⟩
      ·
        exact F.tr (fX4_readItem_b199 hoF frp _ _ _ _ _ _ h)
      ·
        rcases ob_ite h with ⟨c13, h⟩ | ⟨c13, h⟩
        ·
          exact F.tr (fX4_readItem_b199 hoF frp _ _ _ _ _ _ h)
        ·
          obtain ⟨g14, h⟩ := ob_gd h
          obtain ⟨M15, eM15, h⟩ := ob_lx h
          have F := F.s1 eM15 (by decide)
          exact F.tr (fX4_readItem_b199 hoF frp _ _ _ _ _ _ h)
    ·
      exact F.retv h
theorem fX4_readItem {rp : Int32 → Int32 → Int32 → Int32 → Mm → Option Mm} (frp : ∀ (a1 a2 a3 a4 : Int32) (M M' : Mm), rp a1 a2 a3 a4 M = some M' → Fc M M') {a1 : Int32} {a2 : Int32} {pk : Nat} {a4 : Int32} (hoF : pk < 31) {M M' : Mm} (h : rX4_readItem rp a1 a2 pk a4 M = some M') : Fc M M' := by
  unfold rX4_readItem at h
  have F : Fc M M := Fc.rf
  obtain ⟨y1, ey1, h⟩ := ob_lx h
  obtain ⟨y2, ey2, h⟩ := ob_lx h
  rcases ob_ite h with ⟨c3, h⟩ | ⟨c3, h⟩
  ·
    obtain ⟨M5, e4, h⟩ := ob_bind h
    have F := F.tr (fX4_readStored e4)
    exact F.tr (fX4_readItem_b151 hoF frp _ _ _ _ _ _ h)
  ·
    rcases ob_ite h with ⟨c16, h⟩ | ⟨c16, h⟩
    ·
      obtain ⟨M18, e17, h⟩ := ob_bind h
      have F := F.tr (fX4_readRun e17)
      exact F.tr (fX4_readItem_b151 hoF frp _ _ _ _ _ _ h)
    ·
      rcases ob_ite h with ⟨c19, h⟩ | ⟨c19, h⟩
      ·
        obtain ⟨M21, e20, h⟩ := ob_bind h
        have F := F.tr (fX4_readCopy (by omega) e20)
        exact F.tr (fX4_readItem_b151 hoF frp _ _ _ _ _ _ h)
      ·
        rcases ob_ite h with ⟨c22, h⟩ | ⟨c22, h⟩
        ·
          obtain ⟨M24, e23, h⟩ := ob_bind h
          have F := F.tr (fX4_readNest frp (by omega) e23)
          exact F.tr (fX4_readItem_b151 hoF frp _ _ _ _ _ _ h)
        ·
          rcases ob_ite h with ⟨c25, h⟩ | ⟨c25, h⟩
          ·
            obtain ⟨M27, e26, h⟩ := ob_bind h
            have F := F.tr (fX4_readNote e26)
            exact F.tr (fX4_readItem_b151 hoF frp _ _ _ _ _ _ h)
          ·
            rcases ob_ite h with ⟨c28, h⟩ | ⟨c28, h⟩
            ·
              obtain ⟨M30, e29, h⟩ := ob_bind h
              have F := F.tr (fX4_readAgain (by omega) e29)
              exact F.tr (fX4_readItem_b151 hoF frp _ _ _ _ _ _ h)
            ·
              rcases ob_ite h with ⟨c31, h⟩ | ⟨c31, h⟩
              ·
                obtain ⟨r34, M33, e32, h⟩ := ob_bd2 h
                have F := F.tr (fX4_readTable e32)
                obtain ⟨M36, e35, h⟩ := ob_bind h
                have F := F.tr (fX4_readBits e35)
                exact F.tr (fX4_readItem_b151 hoF frp _ _ _ _ _ _ h)
              ·
                obtain ⟨M38, e37, h⟩ := ob_bind h
                have F := F.tr (fX4_fail e37)
                exact F.tr (fX4_readItem_b151 hoF frp _ _ _ _ _ _ h)
theorem fX4_readPack_b13 {rp : Int32 → Int32 → Int32 → Int32 → Mm → Option Mm} (frp : ∀ (a1 a2 a3 a4 : Int32) (M M' : Mm), rp a1 a2 a3 a4 M = some M' → Fc M M') {M' : Mm} : ∀ (x1 : Int32) (x2 : Int32) (x3 : Int32) (x4 : Int32) (M : Mm), rX4_readPack_b13 rp x1 x2 x3 x4 M = some M' → Fc M M' := by
    intro x1 x2 x3 x4 M h
    unfold rX4_readPack_b13 at h
    have F : Fc M M := Fc.rf
    obtain ⟨M3, e2, h⟩ := ob_bind h
    have F := F.tr (fX4_fail e2)
    exact F.retv h
theorem fX4_readPack_b166 {rp : Int32 → Int32 → Int32 → Int32 → Mm → Option Mm} (frp : ∀ (a1 a2 a3 a4 : Int32) (M M' : Mm), rp a1 a2 a3 a4 M = some M' → Fc M M') {M' : Mm} {q109 : Int32 → Int32 → Nat → Int32 → Mm → Option Mm} (fq109 : ∀ (x2 : Int32) (x3 : Int32) (k5 : Nat) (x6 : Int32) (M : Mm) (hk5F : k5 < 31), q109 x2 x3 k5 x6 M = some M' → Fc M M') : ∀ (x2 : Int32) (x3 : Int32) (k5 : Nat) (x6 : Int32) (M : Mm) (hk5F : k5 < 31), rX4_readPack_b166 rp q109 x2 x3 k5 x6 M = some M' → Fc M M' := by
    intro x2 x3 k5 x6 M hk5F h
    unfold rX4_readPack_b166 at h
    have F : Fc M M := Fc.rf
    obtain ⟨y27, ey27, h⟩ := ob_lx h
    exact F.tr (fq109 _ _ _ _ _ (by omega) h)
theorem fX4_readPack_b109 {rp : Int32 → Int32 → Int32 → Int32 → Mm → Option Mm} (frp : ∀ (a1 a2 a3 a4 : Int32) (M M' : Mm), rp a1 a2 a3 a4 M = some M' → Fc M M') {M' : Mm} : ∀ (n : Nat), ∀ (x2 : Int32) (x3 : Int32) (k5 : Nat) (x6 : Int32) (M : Mm) (hk5F : k5 < 31), rX4_readPack_b109 rp n x2 x3 k5 x6 M = some M' → Fc M M' := by
  intro n
  induction n with
  | zero =>
    intro x2 x3 k5 x6 M hk5F h
    cases (show (none : Option Mm) = some M' from h)
  | succ n fq1090 =>
    have fq109 : ∀ (x2 : Int32) (x3 : Int32) (k5 : Nat) (x6 : Int32) (M : Mm) (hk5F : k5 < 31), (rX4_readPack_b109 rp n) x2 x3 k5 x6 M = some M' → Fc M M' := fq1090
    intro x2 x3 k5 x6 M hk5F h
    have h : rX4_readPack_b109_s rp (rX4_readPack_b109 rp n) x2 x3 k5 x6 M = some M' := h
    unfold rX4_readPack_b109_s at h
    have F : Fc M M := Fc.rf
    rcases ob_ite h with ⟨c19, h⟩ | ⟨c19, h⟩
    ·
      exact F.retv h
    ·
      rcases ob_ite h with ⟨c20, h⟩ | ⟨c20, h⟩
      ·
        obtain ⟨y21, ey21, h⟩ := ob_lx h
        obtain ⟨r24, M23, e22, h⟩ := ob_bd2 h
        have F := F.tr (fX4_next e22)
        rcases ob_ite h with ⟨c25, h⟩ | ⟨c25, h⟩
        ·
          obtain ⟨M31, e30, h⟩ := ob_bind h
          have F := F.tr (fX4_readCheck (by omega) e30)
          exact F.retv h
        ·
          rcases ob_ite h with ⟨c26, h⟩ | ⟨c26, h⟩
          ·
            exact F.tr (fX4_readPack_b166 frp fq109 _ _ _ _ _ (by omega) h)
          ·
            obtain ⟨M29, e28, h⟩ := ob_bind h
            have F := F.tr (fX4_readItem frp (by omega) e28)
            exact F.tr (fX4_readPack_b166 frp fq109 _ _ _ _ _ (by omega) h)
      ·
        exact F.retv h
theorem fX4_readPack_s {rp : Int32 → Int32 → Int32 → Int32 → Mm → Option Mm} (frp : ∀ (a1 a2 a3 a4 : Int32) (M M' : Mm), rp a1 a2 a3 a4 M = some M' → Fc M M') {a1 : Int32} {a2 : Int32} {a3 : Int32} {a4 : Int32} {M M' : Mm} (h : rX4_readPack_s rp a1 a2 a3 a4 M = some M') : Fc M M' := by
  unfold rX4_readPack_s at h
  have F : Fc M M := Fc.rf
  rcases ob_ite h with ⟨c1, h⟩ | ⟨c1, h⟩
  ·
    exact F.tr (fX4_readPack_b13 frp _ _ _ _ _ h)
  ·
    rcases ob_ite h with ⟨c4, h⟩ | ⟨c4, h⟩
    ·
      obtain ⟨g5, h⟩ := ob_gd h
      obtain ⟨r8, M7, e6, h⟩ := ob_bd2 h
      have F := F.tr (fX4_pay e6)
      rcases ob_ite h with ⟨c9, h⟩ | ⟨c9, h⟩
      ·
        exact F.retv h
      ·
        obtain ⟨M10, eM10, h⟩ := ob_lx h
        have F := F.s1 eM10 (by decide)
        obtain ⟨M11, eM11, h⟩ := ob_lx h
        have F := F.s1 eM11 (by decide)
        obtain ⟨M13, e12, h⟩ := ob_bind h
        have F := F.tr (fX3_begin (by omega) e12)
        obtain ⟨M14, eM14, h⟩ := ob_lx h
        have F := F.s1 eM14 (by decide)
        obtain ⟨M16, e15, h⟩ := ob_bind h
        have F := F.tr (fX4_readMark e15)
        obtain ⟨M18, e17, h⟩ := ob_bind h
        have F := F.tr (fX4_readMark e17)
        exact F.tr (fX4_readPack_b109 frp FU _ _ _ _ _ (by omega) h)
    ·
      exact F.tr (fX4_readPack_b13 frp _ _ _ _ _ h)
theorem fX4_readPack_n : ∀ (n : Nat) (a1 a2 a3 a4 : Int32) (M M' : Mm), rX4_readPack n a1 a2 a3 a4 M = some M' → Fc M M'
  | 0 => fun _ _ _ _ _ _ h => by cases (show (none : Option Mm) = some _ from h)
  | n + 1 => fun a1 a2 a3 a4 M M' h => fX4_readPack_s (rp := rX4_readPack n) (fun a1 a2 a3 a4 M M' h => fX4_readPack_n n a1 a2 a3 a4 M M' h) (show rX4_readPack_s (rX4_readPack n) a1 a2 a3 a4 M = some M' from h)
theorem fX4_readPack_k {a1 a2 a3 a4 : Int32} {M M' : Mm} (h : rX4_readPack FR a1 a2 a3 a4 M = some M') : Fc M M' := fX4_readPack_n 10 a1 a2 a3 a4 M M' h
theorem fX4_read {a1 : Int32} {a2 : Int32} {a3 : Int32} {M M' : Mm} {r : Int32} (h : rX4_read a1 a2 a3 M = some (r, M')) : Fc M M' := by
  unfold rX4_read at h
  have F : Fc M M := Fc.rf
  obtain ⟨M1, eM1, h⟩ := ob_lx h
  have F := F.s1 eM1 (by decide)
  obtain ⟨M2, eM2, h⟩ := ob_lx h
  have F := F.s1 eM2 (by decide)
  obtain ⟨M3, eM3, h⟩ := ob_lx h
  have F := F.s1 eM3 (by decide)
  obtain ⟨M4, eM4, h⟩ := ob_lx h
  have F := F.s1 eM4 (by decide)
  obtain ⟨M5, eM5, h⟩ := ob_lx h
  have F := F.s1 eM5 (by decide)
  obtain ⟨M6, eM6, h⟩ := ob_lx h
  have F := F.s1 eM6 (by decide)
  obtain ⟨M7, eM7, h⟩ := ob_lx h
  have F := F.s1 eM7 (by decide)
  obtain ⟨M8, eM8, h⟩ := ob_lx h
  have F := F.s1 eM8 (by decide)
  obtain ⟨M9, eM9, h⟩ := ob_lx h
  have F := F.s1 eM9 (by decide)
  obtain ⟨M11, e10, h⟩ := ob_bind h
  have F := F.tr (fX0_keepFirst (by omega) e10)
  obtain ⟨M12, eM12, h⟩ := ob_lx h
  have F := F.s1 eM12 (by decide)
  obtain ⟨M14, e13, h⟩ := ob_bind h
  have F := F.tr (fX4_readPack_k e13)
  exact F.reti h
theorem fX6_feed_b37 {M' : Mm} {r : Int32} : ∀ (n : Nat), ∀ (x2 : Int64) (x4 : Int32) (M : Mm), rX6_feed_b37 n x2 x4 M = some (r, M') → Fc M M' := by
  intro n
  induction n with
  | zero =>
    intro x2 x4 M h
    cases (show (none : Option (Int32 × Mm)) = some (r, M') from h)
  | succ n fq370 =>
    have fq37 : ∀ (x2 : Int64) (x4 : Int32) (M : Mm), (rX6_feed_b37 n) x2 x4 M = some (r, M') → Fc M M' := fq370
    intro x2 x4 M h
    have h : rX6_feed_b37_s (rX6_feed_b37 n) x2 x4 M = some (r, M') := h
    unfold rX6_feed_b37_s at h
    have F : Fc M M := Fc.rf
    rcases ob_ite h with ⟨c5, h⟩ | ⟨c5, h⟩
    ·
      exact F.reti h
    ·
      obtain ⟨M7, e6, h⟩ := ob_bind h
      have F := F.tr (fX0_append (by omega) e6)
      obtain ⟨y8, ey8, h⟩ := ob_lx h
      exact F.tr (fq37 _ _ _ h)
theorem fX6_feed {a1 : Int32} {a2 : Int64} {M M' : Mm} {r : Int32} (h : rX6_feed a1 a2 M = some (r, M')) : Fc M M' := by
  unfold rX6_feed at h
  have F : Fc M M := Fc.rf
  rcases ob_ite h with ⟨c1, h⟩ | ⟨c1, h⟩
  ·
    exact F.reti h
  ·
    rcases ob_ite h with ⟨c2, h⟩ | ⟨c2, h⟩
    ·
      rcases ob_ite h with ⟨c3, h⟩ | ⟨c3, h⟩
      ·
        obtain ⟨y4, ey4, h⟩ := ob_lx h
        exact F.tr (fX6_feed_b37 FU _ _ _ h)
      ·
        exact F.reti h
    ·
      exact F.reti h
theorem fX6_cut {a1 : Int32} {M M' : Mm} {r : Int32} (h : rX6_cut a1 M = some (r, M')) : Fc M M' := by
  unfold rX6_cut at h
  have F : Fc M M := Fc.rf
  rcases ob_ite h with ⟨c1, h⟩ | ⟨c1, h⟩
  ·
    exact F.reti h
  ·
    rcases ob_ite h with ⟨c2, h⟩ | ⟨c2, h⟩
    ·
      obtain ⟨y3, ey3, h⟩ := ob_lx h
      obtain ⟨M5, e4, h⟩ := ob_bind h
      have F := F.tr (fX0_keepFirst (by omega) e4)
      exact F.reti h
    ·
      exact F.reti h
theorem fX6_alter {a1 : Int32} {a2 : Int32} {M M' : Mm} {r : Int32} (h : rX6_alter a1 a2 M = some (r, M')) : Fc M M' := by
  unfold rX6_alter at h
  have F : Fc M M := Fc.rf
  rcases ob_ite h with ⟨c1, h⟩ | ⟨c1, h⟩
  ·
    exact F.reti h
  ·
    rcases ob_ite h with ⟨c2, h⟩ | ⟨c2, h⟩
    ·
      exact F.reti h
    ·
      rcases ob_ite h with ⟨c3, h⟩ | ⟨c3, h⟩
      ·
        exact F.reti h
      ·
        rcases ob_ite h with ⟨c4, h⟩ | ⟨c4, h⟩
        ·
          obtain ⟨r7, M6, e5, h⟩ := ob_bd2 h
          have F := F.tr (fX0_get (by omega) e5)
          obtain ⟨M9, e8, h⟩ := ob_bind h
          have F := F.tr (fX0_put (by omega) e8)
          exact F.reti h
        ·
          exact F.reti h
theorem fX6_at {a1 : Int32} {M M' : Mm} {r : Int32} (h : rX6_at a1 M = some (r, M')) : Fc M M' := by
  unfold rX6_at at h
  have F : Fc M M := Fc.rf
  obtain ⟨r3, M2, e1, h⟩ := ob_bd2 h
  have F := F.tr (fX0_get (by omega) e1)
  exact F.reti h
theorem fX6_mend {M M' : Mm} {r : Int32} (h : rX6_mend M = some (r, M')) : Fc M M' := by
  unfold rX6_mend at h
  have F : Fc M M := Fc.rf
  rcases ob_ite h with ⟨c1, h⟩ | ⟨c1, h⟩
  ·
    exact F.reti h
  ·
    obtain ⟨y2, ey2, h⟩ := ob_lx h
    obtain ⟨r5, M4, e3, h⟩ := ob_bd2 h
    have F := F.tr (fX0_checkOf (by omega) e3)
    obtain ⟨M7, e6, h⟩ := ob_bind h
    have F := F.tr (fX0_put (by omega) e6)
    exact F.reti h
theorem fX6_draw {a1 : Int32} {a2 : Int32} {M M' : Mm} {r : Int32} (h : rX6_draw a1 a2 M = some (r, M')) : Fc M M' := by
  unfold rX6_draw at h
  have F : Fc M M := Fc.rf
  rcases ob_ite h with ⟨c1, h⟩ | ⟨c1, h⟩
  ·
    exact F.reti h
  ·
    rcases ob_ite h with ⟨c2, h⟩ | ⟨c2, h⟩
    ·
      exact F.reti h
    ·
      rcases ob_ite h with ⟨c3, h⟩ | ⟨c3, h⟩
      ·
        exact F.reti h
      ·
        rcases ob_ite h with ⟨c4, h⟩ | ⟨c4, h⟩
        ·
          obtain ⟨M6, e5, h⟩ := ob_bind h
          have F := F.tr (fX2_make e5)
          exact F.reti h
        ·
          exact F.reti h
theorem fX6_areBounds {a0 : Int32} {a1 : Int32} {a2 : Int32} {M M' : Mm} {r : Int32} (h : rX6_areBounds a0 a1 a2 M = some (r, M')) : Fc M M' := by
  unfold rX6_areBounds at h
  have F : Fc M M := Fc.rf
  rcases ob_ite h with ⟨c1, h⟩ | ⟨c1, h⟩
  ·
    exact F.retz h
  ·
    rcases ob_ite h with ⟨c2, h⟩ | ⟨c2, h⟩
    ·
      exact F.retz h
    ·
      rcases ob_ite h with ⟨c3, h⟩ | ⟨c3, h⟩
      ·
        exact F.retz h
      ·
        rcases ob_ite h with ⟨c4, h⟩ | ⟨c4, h⟩
        ·
          exact F.retz h
        ·
          rcases ob_ite h with ⟨c5, h⟩ | ⟨c5, h⟩
          ·
            exact F.retz h
          ·
            rcases ob_ite h with ⟨c6, h⟩ | ⟨c6, h⟩
            ·
              exact F.retz h
            ·
              exact F.retz h
theorem fX6_open {a1 : Int32} {a2 : Int32} {a3 : Int32} {M M' : Mm} {r : Int32} (h : rX6_open a1 a2 a3 M = some (r, M')) : Fc M M' := by
  unfold rX6_open at h
  have F : Fc M M := Fc.rf
  obtain ⟨r3, M2, e1, h⟩ := ob_bd2 h
  have F := F.tr (fX6_areBounds e1)
  rcases ob_ite h with ⟨c4, h⟩ | ⟨c4, h⟩
  ·
    exact F.reti h
  ·
    obtain ⟨r7, M6, e5, h⟩ := ob_bd2 h
    have F := F.tr (fX4_read e5)
    rcases ob_ite h with ⟨c8, h⟩ | ⟨c8, h⟩
    ·
      exact F.reti h
    ·
      exact F.reti h
theorem fX6_place {M M' : Mm} {r : Int32} (h : rX6_place M = some (r, M')) : Fc M M' := by
  unfold rX6_place at h
  have F : Fc M M := Fc.rf
  exact F.reti h
theorem fX6_out {a1 : Int32} {M M' : Mm} {r : Int32} (h : rX6_out a1 M = some (r, M')) : Fc M M' := by
  unfold rX6_out at h
  have F : Fc M M := Fc.rf
  obtain ⟨r3, M2, e1, h⟩ := ob_bd2 h
  have F := F.tr (fX0_get (by omega) e1)
  exact F.reti h
theorem fX6_item {a1 : Int32} {a2 : Int32} {M M' : Mm} {r : Int32} (h : rX6_item a1 a2 M = some (r, M')) : Fc M M' := by
  unfold rX6_item at h
  have F : Fc M M := Fc.rf
  rcases ob_ite h with ⟨c1, h⟩ | ⟨c1, h⟩
  ·
    exact F.reti h
  ·
    obtain ⟨r4, M3, e2, h⟩ := ob_bd2 h
    have F := F.tr (fX1_get e2)
    exact F.reti h
theorem fX6_shrink_b129 {M' : Mm} {r : Int32} : ∀ (x1 : Int32) (x2 : Int32) (x3 : Int32) (M : Mm), rX6_shrink_b129 x1 x2 x3 M = some (r, M') → Fc M M' := by
    intro x1 x2 x3 M h
    unfold rX6_shrink_b129 at h
    have F : Fc M M := Fc.rf
    obtain ⟨r15, M14, e13, h⟩ := ob_bd2 h
    have F := F.tr (fX4_read e13)
    exact F.reti h
theorem fX6_shrink_b123 {M' : Mm} {r : Int32} {q54 : Int32 → Int32 → Int32 → Int32 → Int32 → Int32 → Int32 → Mm → Option (Int32 × Mm)} (fq54 : ∀ (x1 : Int32) (x2 : Int32) (x3 : Int32) (x4 : Int32) (x5 : Int32) (x6 : Int32) (x7 : Int32) (M : Mm), q54 x1 x2 x3 x4 x5 x6 x7 M = some (r, M') → Fc M M') : ∀ (x1 : Int32) (x2 : Int32) (x3 : Int32) (x4 : Int32) (x5 : Int32) (x6 : Int32) (x7 : Int32) (M : Mm), rX6_shrink_b123 q54 x1 x2 x3 x4 x5 x6 x7 M = some (r, M') → Fc M M' := by
    intro x1 x2 x3 x4 x5 x6 x7 M h
    unfold rX6_shrink_b123 at h
    have F : Fc M M := Fc.rf
    obtain ⟨y24, ey24, h⟩ := ob_lx h
    exact F.tr (fq54 _ _ _ _ _ _ _ _ h)
theorem fX6_shrink_b54 {M' : Mm} {r : Int32} : ∀ (n : Nat), ∀ (x1 : Int32) (x2 : Int32) (x3 : Int32) (x4 : Int32) (x5 : Int32) (x6 : Int32) (x7 : Int32) (M : Mm), rX6_shrink_b54 n x1 x2 x3 x4 x5 x6 x7 M = some (r, M') → Fc M M' := by
  intro n
  induction n with
  | zero =>
    intro x1 x2 x3 x4 x5 x6 x7 M h
    cases (show (none : Option (Int32 × Mm)) = some (r, M') from h)
  | succ n fq540 =>
    have fq54 : ∀ (x1 : Int32) (x2 : Int32) (x3 : Int32) (x4 : Int32) (x5 : Int32) (x6 : Int32) (x7 : Int32) (M : Mm), (rX6_shrink_b54 n) x1 x2 x3 x4 x5 x6 x7 M = some (r, M') → Fc M M' := fq540
    intro x1 x2 x3 x4 x5 x6 x7 M h
    have h : rX6_shrink_b54_s (rX6_shrink_b54 n) x1 x2 x3 x4 x5 x6 x7 M = some (r, M') := h
    unfold rX6_shrink_b54_s at h
    have F : Fc M M := Fc.rf
    rcases ob_ite h with ⟨c12, h⟩ | ⟨c12, h⟩
    ·
      exact F.tr (fX6_shrink_b129 _ _ _ _ h)
    ·
      rcases ob_ite h with ⟨c16, h⟩ | ⟨c16, h⟩
      ·
        exact F.tr (fX6_shrink_b129 _ _ _ _ h)
      ·
        obtain ⟨g17, h⟩ := ob_gd h
        obtain ⟨M19, e18, h⟩ := ob_bind h
        have F := F.tr (fX0_takeOut (by omega) e18)
        obtain ⟨r22, M21, e20, h⟩ := ob_bd2 h
        have F := F.tr (fX4_read e20)
        rcases ob_ite h with ⟨c23, h⟩ | ⟨c23, h⟩
        ·
          exact F.tr (fX6_shrink_b123 fq54 _ _ _ _ _ _ _ _ h)
        ·
          obtain ⟨M26, e25, h⟩ := ob_bind h
          have F := F.tr (fX0_putBack (by omega) e25)
          obtain ⟨g27, h⟩ := ob_gd h
          obtain ⟨y28, ey28, h⟩ := ob_lx h
          exact F.tr (fX6_shrink_b123 fq54 _ _ _ _ _ _ _ _ h)
theorem fX6_shrink {a1 : Int32} {a2 : Int32} {a3 : Int32} {M M' : Mm} {r : Int32} (h : rX6_shrink a1 a2 a3 M = some (r, M')) : Fc M M' := by
  unfold rX6_shrink at h
  have F : Fc M M := Fc.rf
  obtain ⟨r3, M2, e1, h⟩ := ob_bd2 h
  have F := F.tr (fX6_areBounds e1)
  rcases ob_ite h with ⟨c4, h⟩ | ⟨c4, h⟩
  ·
    exact F.reti h
  ·
    obtain ⟨r7, M6, e5, h⟩ := ob_bd2 h
    have F := F.tr (fX4_read e5)
    rcases ob_ite h with ⟨c8, h⟩ | ⟨c8, h⟩
    ·
      exact F.reti h
    ·
      obtain ⟨r11, M10, e9, h⟩ := ob_bd2 h
      have F := F.tr (fX1_copyLengths e9)
      exact F.tr (fX6_shrink_b54 FU _ _ _ _ _ _ _ _ h)
theorem fX6_count {a1 : Int32} {M M' : Mm} {r : Int32} (h : rX6_count a1 M = some (r, M')) : Fc M M' := by
  unfold rX6_count at h
  have F : Fc M M := Fc.rf
  rcases ob_ite h with ⟨c1, h⟩ | ⟨c1, h⟩
  ·
    exact F.reti h
  ·
    rcases ob_ite h with ⟨c2, h⟩ | ⟨c2, h⟩
    ·
      exact F.reti h
    ·
      rcases ob_ite h with ⟨c3, h⟩ | ⟨c3, h⟩
      ·
        exact F.reti h
      ·
        rcases ob_ite h with ⟨c4, h⟩ | ⟨c4, h⟩
        ·
          exact F.reti h
        ·
          rcases ob_ite h with ⟨c5, h⟩ | ⟨c5, h⟩
          ·
            exact F.reti h
          ·
            rcases ob_ite h with ⟨c6, h⟩ | ⟨c6, h⟩
            ·
              exact F.reti h
            ·
              rcases ob_ite h with ⟨c7, h⟩ | ⟨c7, h⟩
              ·
                exact F.reti h
              ·
                exact F.reti h
