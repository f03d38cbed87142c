theorem fX7_in {a0 : Int64} {a2 : Int64} {a4 : Int64} {M M' : Mm} {r : Int32} (h : rX7_in a0 a2 a4 M = some (r, M')) : Fr M M' := by
  unfold rX7_in at h
  have F : Fr M M := Fr.rf
  rcases ob_ite h with ⟨c1, h⟩ | ⟨c1, h⟩
  ·
    exact F.retz h
  ·
    rcases ob_ite h with ⟨c2, h⟩ | ⟨c2, h⟩
    ·
      exact F.retz h
    ·
      exact F.retz h
theorem fX7_lay {a1 : Int32} {M M' : Mm} (h : rX7_lay a1 M = some M') : Fr M M' := by
  unfold rX7_lay at h
  have F : Fr M M := Fr.rf
  obtain ⟨g1, h⟩ := ob_gd h
  obtain ⟨M2, eM2, h⟩ := ob_lx h
  have F := F.s1 eM2 (by decide)
  obtain ⟨M3, eM3, h⟩ := ob_lx h
  have F := F.s1 eM3 (by decide)
  exact F.retv h
theorem fX7_feed_b35 {M' : Mm} {r : Int32} : ∀ (n : Nat), ∀ (x2 : Int64) (x4 : Int32) (M : Mm), rX7_feed_b35 n x2 x4 M = some (r, M') → Fr M M' := by
  intro n
  induction n with
  | zero =>
    intro x2 x4 M h
    cases (show (none : Option (Int32 × Mm)) = some (r, M') from h)
  | succ n fq350 =>
    have fq35 : ∀ (x2 : Int64) (x4 : Int32) (M : Mm), (rX7_feed_b35 n) x2 x4 M = some (r, M') → Fr M M' := fq350
    intro x2 x4 M h
    have h : rX7_feed_b35_s (rX7_feed_b35 n) x2 x4 M = some (r, M') := h
    unfold rX7_feed_b35_s at h
    have F : Fr M M := Fr.rf
    rcases ob_ite h with ⟨c7, h⟩ | ⟨c7, h⟩
    ·
      exact F.reti h
    ·
      obtain ⟨M9, e8, h⟩ := ob_bind h
      have F := F.tr (fX7_lay e8)
      obtain ⟨y10, ey10, h⟩ := ob_lx h
      exact F.tr (fq35 _ _ _ h)
theorem fX7_feed {a1 : Int32} {a2 : Int64} {M M' : Mm} {r : Int32} (h : rX7_feed a1 a2 M = some (r, M')) : Fr M M' := by
  unfold rX7_feed at h
  have F : Fr M M := Fr.rf
  obtain ⟨r3, M2, e1, h⟩ := ob_bd2 h
  have F := F.tr (fX7_in e1)
  rcases ob_ite h with ⟨c4, h⟩ | ⟨c4, h⟩
  ·
    exact F.reti h
  ·
    rcases ob_ite h with ⟨c5, h⟩ | ⟨c5, h⟩
    ·
      obtain ⟨y6, ey6, h⟩ := ob_lx h
      exact F.tr (fX7_feed_b35 FU _ _ _ h)
    ·
      exact F.reti h
theorem fX7_cut {a1 : Int32} {M M' : Mm} {r : Int32} (h : rX7_cut a1 M = some (r, M')) : Fr M M' := by
  unfold rX7_cut at h
  have F : Fr M M := Fr.rf
  obtain ⟨r3, M2, e1, h⟩ := ob_bd2 h
  have F := F.tr (fX7_in e1)
  rcases ob_ite h with ⟨c4, h⟩ | ⟨c4, h⟩
  ·
    exact F.reti h
  ·
    obtain ⟨y5, ey5, h⟩ := ob_lx h
    obtain ⟨M6, eM6, h⟩ := ob_lx h
    have F := F.s1 eM6 (by decide)
    exact F.reti h
theorem fX7_alter {a1 : Int32} {a2 : Int32} {M M' : Mm} {r : Int32} (h : rX7_alter a1 a2 M = some (r, M')) : Fr M M' := by
  unfold rX7_alter at h
  have F : Fr M M := Fr.rf
  obtain ⟨r3, M2, e1, h⟩ := ob_bd2 h
  have F := F.tr (fX7_in e1)
  rcases ob_ite h with ⟨c4, h⟩ | ⟨c4, h⟩
  ·
    exact F.reti h
  ·
    obtain ⟨r7, M6, e5, h⟩ := ob_bd2 h
    have F := F.tr (fX7_in e5)
    rcases ob_ite h with ⟨c8, h⟩ | ⟨c8, h⟩
    ·
      exact F.reti h
    ·
      obtain ⟨g9, h⟩ := ob_gd h
      obtain ⟨y10, ey10, h⟩ := ob_lx h
      obtain ⟨g11, h⟩ := ob_gd h
      obtain ⟨M12, eM12, h⟩ := ob_lx h
      have F := F.s1 eM12 (by decide)
      exact F.reti h
theorem fX7_at {a1 : Int32} {M M' : Mm} {r : Int32} (h : rX7_at a1 M = some (r, M')) : Fr M M' := by
  unfold rX7_at at h
  have F : Fr M M := Fr.rf
  obtain ⟨r3, M2, e1, h⟩ := ob_bd2 h
  have F := F.tr (fX7_in e1)
  rcases ob_ite h with ⟨c4, h⟩ | ⟨c4, h⟩
  ·
    exact F.reti h
  ·
    obtain ⟨g5, h⟩ := ob_gd h
    exact F.reti h
theorem fX7_sumOf_b5 {M' : Mm} {r : Int32} : ∀ (n : Nat), ∀ (x2 : Int32) (x3 : Int32) (x4 : Int32) (M : Mm), rX7_sumOf_b5 n x2 x3 x4 M = some (r, M') → Fr M M' := by
  intro n
  induction n with
  | zero =>
    intro x2 x3 x4 M h
    cases (show (none : Option (Int32 × Mm)) = some (r, M') from h)
  | succ n fq50 =>
    have fq5 : ∀ (x2 : Int32) (x3 : Int32) (x4 : Int32) (M : Mm), (rX7_sumOf_b5 n) x2 x3 x4 M = some (r, M') → Fr M M' := fq50
    intro x2 x3 x4 M h
    have h : rX7_sumOf_b5_s (rX7_sumOf_b5 n) x2 x3 x4 M = some (r, M') := h
    unfold rX7_sumOf_b5_s at h
    have F : Fr M M := Fr.rf
    rcases ob_ite h with ⟨c1, h⟩ | ⟨c1, h⟩
    ·
      exact F.reti h
    ·
      obtain ⟨g2, h⟩ := ob_gd h
      obtain ⟨y3, ey3, h⟩ := ob_lx h
      obtain ⟨y4, ey4, h⟩ := ob_lx h
      exact F.tr (fq5 _ _ _ _ h)
theorem fX7_sumOf {a1 : Int32} {a2 : Int32} {M M' : Mm} {r : Int32} (h : rX7_sumOf a1 a2 M = some (r, M')) : Fr M M' := by
  unfold rX7_sumOf at h
  have F : Fr M M := Fr.rf
  exact F.tr (fX7_sumOf_b5 FU _ _ _ _ h)
theorem fX7_mend {M M' : Mm} {r : Int32} (h : rX7_mend M = some (r, M')) : Fr M M' := by
  unfold rX7_mend at h
  have F : Fr M M := Fr.rf
  rcases ob_ite h with ⟨c1, h⟩ | ⟨c1, h⟩
  ·
    exact F.reti h
  ·
    obtain ⟨r4, M3, e2, h⟩ := ob_bd2 h
    have F := F.tr (fX7_sumOf e2)
    obtain ⟨g5, h⟩ := ob_gd h
    obtain ⟨M6, eM6, h⟩ := ob_lx h
    have F := F.s1 eM6 (by decide)
    obtain ⟨g7, h⟩ := ob_gd h
    exact F.reti h
theorem fX7_draws {a1 : Int32} {M M' : Mm} {r : Int32} (h : rX7_draws a1 M = some (r, M')) : Fr M M' := by
  unfold rX7_draws at h
  have F : Fr M M := Fr.rf
  obtain ⟨M1, eM1, h⟩ := ob_lx h
  have F := F.s2 eM1 (by decide)
  obtain ⟨g2, h⟩ := ob_gd h
  exact F.reti h
theorem fX7_lays {a1 : Int32} {a2 : Int32} {M M' : Mm} (h : rX7_lays a1 a2 M = some M') : Fr M M' := by
  unfold rX7_lays at h
  have F : Fr M M := Fr.rf
  obtain ⟨M2, e1, h⟩ := ob_bind h
  have F := F.tr (fX7_lay e1)
  obtain ⟨M4, e3, h⟩ := ob_bind h
  have F := F.tr (fX7_lay e3)
  exact F.retv h
theorem fX7_close {a1 : Int32} {M M' : Mm} (h : rX7_close a1 M = some M') : Fr M M' := by
  unfold rX7_close at h
  have F : Fr M M := Fr.rf
  obtain ⟨M2, e1, h⟩ := ob_bind h
  have F := F.tr (fX7_lay e1)
  obtain ⟨r5, M4, e3, h⟩ := ob_bd2 h
  have F := F.tr (fX7_sumOf e3)
  obtain ⟨M7, e6, h⟩ := ob_bind h
  have F := F.tr (fX7_lay e6)
  exact F.retv h
theorem fX7_some_b8 {M' : Mm} : ∀ (n : Nat), ∀ (x2 : Int32) (x3 : Int32) (M : Mm), rX7_some_b8 n x2 x3 M = some M' → Fr M M' := by
  intro n
  induction n with
  | zero =>
    intro x2 x3 M h
    cases (show (none : Option Mm) = some M' from h)
  | succ n fq80 =>
    have fq8 : ∀ (x2 : Int32) (x3 : Int32) (M : Mm), (rX7_some_b8 n) x2 x3 M = some M' → Fr M M' := fq80
    intro x2 x3 M h
    have h : rX7_some_b8_s (rX7_some_b8 n) x2 x3 M = some M' := h
    unfold rX7_some_b8_s at h
    have F : Fr M M := Fr.rf
    rcases ob_ite h with ⟨c3, h⟩ | ⟨c3, h⟩
    ·
      exact F.retv h
    ·
      obtain ⟨r6, M5, e4, h⟩ := ob_bd2 h
      have F := F.tr (fX7_draws e4)
      obtain ⟨M8, e7, h⟩ := ob_bind h
      have F := F.tr (fX7_lay e7)
      obtain ⟨y9, ey9, h⟩ := ob_lx h
      exact F.tr (fq8 _ _ _ h)
theorem fX7_some {a1 : Int32} {a2 : Int32} {M M' : Mm} (h : rX7_some a1 a2 M = some M') : Fr M M' := by
  unfold rX7_some at h
  have F : Fr M M := Fr.rf
  obtain ⟨M2, e1, h⟩ := ob_bind h
  have F := F.tr (fX7_lays e1)
  exact F.tr (fX7_some_b8 FU _ _ _ h)
theorem fX7_drawItem_b132 {M' : Mm} : ∀ (x2 : Int32) (M : Mm), rX7_drawItem_b132 x2 M = some M' → Fr M M' := by
    intro x2 M h
    unfold rX7_drawItem_b132 at h
    have F : Fr M M := Fr.rf
    rcases ob_ite h with ⟨c9, h⟩ | ⟨c9, h⟩
    ·
      obtain ⟨M25, e24, h⟩ := ob_bind h
      have F := F.tr (fX7_some e24)
      exact F.retv h
    ·
      obtain ⟨r12, M11, e10, h⟩ := ob_bd2 h
      have F := F.tr (fX7_draws e10)
      obtain ⟨M14, e13, h⟩ := ob_bind h
      have F := F.tr (fX7_lays e13)
      obtain ⟨M16, e15, h⟩ := ob_bind h
      have F := F.tr (fX7_lay e15)
      obtain ⟨y17, ey17, h⟩ := ob_lx h
      obtain ⟨M19, e18, h⟩ := ob_bind h
      have F := F.tr (fX7_lays e18)
      obtain ⟨M21, e20, h⟩ := ob_bind h
      have F := F.tr (fX7_some e20)
      obtain ⟨M23, e22, h⟩ := ob_bind h
      have F := F.tr (fX7_close e22)
      exact F.retv h
theorem fX7_drawItem {a1 : Int32} {M M' : Mm} (h : rX7_drawItem a1 M = some M') : Fr M M' := by
  unfold rX7_drawItem at h
  have F : Fr M M := Fr.rf
  obtain ⟨r3, M2, e1, h⟩ := ob_bd2 h
  have F := F.tr (fX7_draws e1)
  rcases ob_ite h with ⟨c4, h⟩ | ⟨c4, h⟩
  ·
    obtain ⟨r60, M59, e58, h⟩ := ob_bd2 h
    have F := F.tr (fX7_draws e58)
    obtain ⟨M62, e61, h⟩ := ob_bind h
    have F := F.tr (fX7_some e61)
    exact F.retv h
  ·
    rcases ob_ite h with ⟨c5, h⟩ | ⟨c5, h⟩
    ·
      obtain ⟨r50, M49, e48, h⟩ := ob_bd2 h
      have F := F.tr (fX7_draws e48)
      obtain ⟨M52, e51, h⟩ := ob_bind h
      have F := F.tr (fX7_lays e51)
      obtain ⟨r55, M54, e53, h⟩ := ob_bd2 h
      have F := F.tr (fX7_draws e53)
      obtain ⟨M57, e56, h⟩ := ob_bind h
      have F := F.tr (fX7_lay e56)
      exact F.retv h
    ·
      rcases ob_ite h with ⟨c6, h⟩ | ⟨c6, h⟩
      ·
        obtain ⟨r39, M38, e37, h⟩ := ob_bd2 h
        have F := F.tr (fX7_draws e37)
        obtain ⟨y40, ey40, h⟩ := ob_lx h
        obtain ⟨M42, e41, h⟩ := ob_bind h
        have F := F.tr (fX7_lays e41)
        obtain ⟨r45, M44, e43, h⟩ := ob_bd2 h
        have F := F.tr (fX7_draws e43)
        obtain ⟨M47, e46, h⟩ := ob_bind h
        have F := F.tr (fX7_lay e46)
        exact F.retv h
      ·
        rcases ob_ite h with ⟨c7, h⟩ | ⟨c7, h⟩
        ·
          obtain ⟨r34, M33, e32, h⟩ := ob_bd2 h
          have F := F.tr (fX7_draws e32)
          obtain ⟨M36, e35, h⟩ := ob_bind h
          have F := F.tr (fX7_some e35)
          exact F.retv h
        ·
          rcases ob_ite h with ⟨c8, h⟩ | ⟨c8, h⟩
          ·
            rcases ob_ite h with ⟨c26, h⟩ | ⟨c26, h⟩
            ·
              exact F.tr (fX7_drawItem_b132 _ _ h)
            ·
              obtain ⟨r29, M28, e27, h⟩ := ob_bd2 h
              have F := F.tr (fX7_draws e27)
              obtain ⟨M31, e30, h⟩ := ob_bind h
              have F := F.tr (fX7_lays e30)
              exact F.retv h
          ·
            exact F.tr (fX7_drawItem_b132 _ _ h)
theorem fX7_deep_b75 {M' : Mm} : ∀ (n : Nat), ∀ (x1 : Int32) (x2 : Int32) (x3 : Int32) (M : Mm), rX7_deep_b75 n x1 x2 x3 M = some M' → Fr M M' := by
  intro n
  induction n with
  | zero =>
    intro x1 x2 x3 M h
    cases (show (none : Option Mm) = some M' from h)
  | succ n fq750 =>
    have fq75 : ∀ (x1 : Int32) (x2 : Int32) (x3 : Int32) (M : Mm), (rX7_deep_b75 n) x1 x2 x3 M = some M' → Fr M M' := fq750
    intro x1 x2 x3 M h
    have h : rX7_deep_b75_s (rX7_deep_b75 n) x1 x2 x3 M = some M' := h
    unfold rX7_deep_b75_s at h
    have F : Fr M M := Fr.rf
    rcases ob_ite h with ⟨c9, h⟩ | ⟨c9, h⟩
    ·
      exact F.retv h
    ·
      obtain ⟨M11, e10, h⟩ := ob_bind h
      have F := F.tr (fX7_close e10)
      obtain ⟨y12, ey12, h⟩ := ob_lx h
      exact F.tr (fq75 _ _ _ _ h)
theorem fX7_deep_b2 {M' : Mm} : ∀ (n : Nat), ∀ (x1 : Int32) (x2 : Int32) (M : Mm), rX7_deep_b2 n x1 x2 M = some M' → Fr M M' := by
  intro n
  induction n with
  | zero =>
    intro x1 x2 M h
    cases (show (none : Option Mm) = some M' from h)
  | succ n fq20 =>
    have fq2 : ∀ (x1 : Int32) (x2 : Int32) (M : Mm), (rX7_deep_b2 n) x1 x2 M = some M' → Fr M M' := fq20
    intro x1 x2 M h
    have h : rX7_deep_b2_s (rX7_deep_b2 n) x1 x2 M = some M' := h
    unfold rX7_deep_b2_s at h
    have F : Fr M M := Fr.rf
    rcases ob_ite h with ⟨c1, h⟩ | ⟨c1, h⟩
    ·
      obtain ⟨y2, ey2, h⟩ := ob_lx h
      obtain ⟨M4, e3, h⟩ := ob_bind h
      have F := F.tr (fX7_lays e3)
      obtain ⟨M6, e5, h⟩ := ob_bind h
      have F := F.tr (fX7_some e5)
      obtain ⟨M8, e7, h⟩ := ob_bind h
      have F := F.tr (fX7_close e7)
      exact F.tr (fX7_deep_b75 FU _ _ _ _ h)
    ·
      obtain ⟨y13, ey13, h⟩ := ob_lx h
      obtain ⟨M15, e14, h⟩ := ob_bind h
      have F := F.tr (fX7_lays e14)
      obtain ⟨M17, e16, h⟩ := ob_bind h
      have F := F.tr (fX7_lay e16)
      obtain ⟨M21, e20, h⟩ := ob_bind h
      have F := F.tr (fX7_lays e20)
      obtain ⟨y22, ey22, h⟩ := ob_lx h
      exact F.tr (fq2 _ _ _ h)
theorem fX7_deep {a1 : Int32} {M M' : Mm} (h : rX7_deep a1 M = some M') : Fr M M' := by
  unfold rX7_deep at h
  have F : Fr M M := Fr.rf
  exact F.tr (fX7_deep_b2 FU _ _ _ h)
theorem fX7_family_b238 {M' : Mm} : ∀ (n : Nat), ∀ (x2 : Int32) (x3 : Int32) (M : Mm), rX7_family_b238 n x2 x3 M = some M' → Fr M M' := by
  intro n
  induction n with
  | zero =>
    intro x2 x3 M h
    cases (show (none : Option Mm) = some M' from h)
  | succ n fq2380 =>
    have fq238 : ∀ (x2 : Int32) (x3 : Int32) (M : Mm), (rX7_family_b238 n) x2 x3 M = some M' → Fr M M' := fq2380
    intro x2 x3 M h
    have h : rX7_family_b238_s (rX7_family_b238 n) x2 x3 M = some M' := h
    unfold rX7_family_b238_s at h
    have F : Fr M M := Fr.rf
    rcases ob_ite h with ⟨c6, h⟩ | ⟨c6, h⟩
    ·
      exact F.retv h
    ·
      obtain ⟨M8, e7, h⟩ := ob_bind h
      have F := F.tr (fX7_drawItem e7)
      obtain ⟨y9, ey9, h⟩ := ob_lx h
      exact F.tr (fq238 _ _ _ h)
theorem fX7_family_b216 {M' : Mm} : ∀ (n : Nat), ∀ (x2 : Int32) (x3 : Int32) (M : Mm), rX7_family_b216 n x2 x3 M = some M' → Fr M M' := by
  intro n
  induction n with
  | zero =>
    intro x2 x3 M h
    cases (show (none : Option Mm) = some M' from h)
  | succ n fq2160 =>
    have fq216 : ∀ (x2 : Int32) (x3 : Int32) (M : Mm), (rX7_family_b216 n) x2 x3 M = some M' → Fr M M' := fq2160
    intro x2 x3 M h
    have h : rX7_family_b216_s (rX7_family_b216 n) x2 x3 M = some M' := h
    unfold rX7_family_b216_s at h
    have F : Fr M M := Fr.rf
    rcases ob_ite h with ⟨c16, h⟩ | ⟨c16, h⟩
    ·
      exact F.retv h
    ·
      obtain ⟨M18, e17, h⟩ := ob_bind h
      have F := F.tr (fX7_lays e17)
      obtain ⟨y19, ey19, h⟩ := ob_lx h
      exact F.tr (fq216 _ _ _ h)
theorem fX7_family_b187 {M' : Mm} : ∀ (n : Nat), ∀ (x2 : Int32) (x3 : Int32) (M : Mm), rX7_family_b187 n x2 x3 M = some M' → Fr M M' := by
  intro n
  induction n with
  | zero =>
    intro x2 x3 M h
    cases (show (none : Option Mm) = some M' from h)
  | succ n fq1870 =>
    have fq187 : ∀ (x2 : Int32) (x3 : Int32) (M : Mm), (rX7_family_b187 n) x2 x3 M = some M' → Fr M M' := fq1870
    intro x2 x3 M h
    have h : rX7_family_b187_s (rX7_family_b187 n) x2 x3 M = some M' := h
    unfold rX7_family_b187_s at h
    have F : Fr M M := Fr.rf
    rcases ob_ite h with ⟨c13, h⟩ | ⟨c13, h⟩
    ·
      obtain ⟨M15, e14, h⟩ := ob_bind h
      have F := F.tr (fX7_lay e14)
      exact F.tr (fX7_family_b216 FU _ _ _ h)
    ·
      obtain ⟨r22, M21, e20, h⟩ := ob_bd2 h
      have F := F.tr (fX7_draws e20)
      obtain ⟨M24, e23, h⟩ := ob_bind h
      have F := F.tr (fX7_lay e23)
      obtain ⟨y25, ey25, h⟩ := ob_lx h
      exact F.tr (fq187 _ _ _ h)
theorem fX7_family_b168 {M' : Mm} : ∀ (n : Nat), ∀ (x2 : Int32) (x3 : Int32) (M : Mm), rX7_family_b168 n x2 x3 M = some M' → Fr M M' := by
  intro n
  induction n with
  | zero =>
    intro x2 x3 M h
    cases (show (none : Option Mm) = some M' from h)
  | succ n fq1680 =>
    have fq168 : ∀ (x2 : Int32) (x3 : Int32) (M : Mm), (rX7_family_b168 n) x2 x3 M = some M' → Fr M M' := fq1680
    intro x2 x3 M h
    have h : rX7_family_b168_s (rX7_family_b168 n) x2 x3 M = some M' := h
    unfold rX7_family_b168_s at h
    have F : Fr M M := Fr.rf
    rcases ob_ite h with ⟨c12, h⟩ | ⟨c12, h⟩
    ·
      exact F.tr (fX7_family_b187 FU _ _ _ h)
    ·
      obtain ⟨M27, e26, h⟩ := ob_bind h
      have F := F.tr (fX7_lay e26)
      obtain ⟨y28, ey28, h⟩ := ob_lx h
      exact F.tr (fq168 _ _ _ h)
theorem fX7_family_b131 {M' : Mm} : ∀ (n : Nat), ∀ (x2 : Int32) (x3 : Int32) (M : Mm), rX7_family_b131 n x2 x3 M = some M' → Fr M M' := by
  intro n
  induction n with
  | zero =>
    intro x2 x3 M h
    cases (show (none : Option Mm) = some M' from h)
  | succ n fq1310 =>
    have fq131 : ∀ (x2 : Int32) (x3 : Int32) (M : Mm), (rX7_family_b131 n) x2 x3 M = some M' → Fr M M' := fq1310
    intro x2 x3 M h
    have h : rX7_family_b131_s (rX7_family_b131 n) x2 x3 M = some M' := h
    unfold rX7_family_b131_s at h
    have F : Fr M M := Fr.rf
    rcases ob_ite h with ⟨c36, h⟩ | ⟨c36, h⟩
    ·
      exact F.retv h
    ·
      obtain ⟨M38, e37, h⟩ := ob_bind h
      have F := F.tr (fX7_lays e37)
      obtain ⟨y39, ey39, h⟩ := ob_lx h
      exact F.tr (fq131 _ _ _ h)
theorem fX7_family_b87 {M' : Mm} : ∀ (n : Nat), ∀ (x2 : Int32) (x3 : Int32) (M : Mm), rX7_family_b87 n x2 x3 M = some M' → Fr M M' := by
  intro n
  induction n with
  | zero =>
    intro x2 x3 M h
    cases (show (none : Option Mm) = some M' from h)
  | succ n fq870 =>
    have fq87 : ∀ (x2 : Int32) (x3 : Int32) (M : Mm), (rX7_family_b87 n) x2 x3 M = some M' → Fr M M' := fq870
    intro x2 x3 M h
    have h : rX7_family_b87_s (rX7_family_b87 n) x2 x3 M = some M' := h
    unfold rX7_family_b87_s at h
    have F : Fr M M := Fr.rf
    rcases ob_ite h with ⟨c40, h⟩ | ⟨c40, h⟩
    ·
      exact F.retv h
    ·
      obtain ⟨M42, e41, h⟩ := ob_bind h
      have F := F.tr (fX7_lays e41)
      obtain ⟨y43, ey43, h⟩ := ob_lx h
      exact F.tr (fq87 _ _ _ h)
theorem fX7_family_b53 {M' : Mm} : ∀ (n : Nat), ∀ (x2 : Int32) (x3 : Int32) (M : Mm), rX7_family_b53 n x2 x3 M = some M' → Fr M M' := by
  intro n
  induction n with
  | zero =>
    intro x2 x3 M h
    cases (show (none : Option Mm) = some M' from h)
  | succ n fq530 =>
    have fq53 : ∀ (x2 : Int32) (x3 : Int32) (M : Mm), (rX7_family_b53 n) x2 x3 M = some M' → Fr M M' := fq530
    intro x2 x3 M h
    have h : rX7_family_b53_s (rX7_family_b53 n) x2 x3 M = some M' := h
    unfold rX7_family_b53_s at h
    have F : Fr M M := Fr.rf
    rcases ob_ite h with ⟨c46, h⟩ | ⟨c46, h⟩
    ·
      exact F.retv h
    ·
      obtain ⟨M48, e47, h⟩ := ob_bind h
      have F := F.tr (fX7_lays e47)
      obtain ⟨M50, e49, h⟩ := ob_bind h
      have F := F.tr (fX7_lay e49)
      obtain ⟨y51, ey51, h⟩ := ob_lx h
      exact F.tr (fq53 _ _ _ h)
theorem fX7_family_b7 {M' : Mm} : ∀ (n : Nat), ∀ (x2 : Int32) (x3 : Int32) (M : Mm), rX7_family_b7 n x2 x3 M = some M' → Fr M M' := by
  intro n
  induction n with
  | zero =>
    intro x2 x3 M h
    cases (show (none : Option Mm) = some M' from h)
  | succ n fq70 =>
    have fq7 : ∀ (x2 : Int32) (x3 : Int32) (M : Mm), (rX7_family_b7 n) x2 x3 M = some M' → Fr M M' := fq70
    intro x2 x3 M h
    have h : rX7_family_b7_s (rX7_family_b7 n) x2 x3 M = some M' := h
    unfold rX7_family_b7_s at h
    have F : Fr M M := Fr.rf
    rcases ob_ite h with ⟨c52, h⟩ | ⟨c52, h⟩
    ·
      exact F.retv h
    ·
      obtain ⟨M54, e53, h⟩ := ob_bind h
      have F := F.tr (fX7_lays e53)
      obtain ⟨r57, M56, e55, h⟩ := ob_bd2 h
      have F := F.tr (fX7_draws e55)
      obtain ⟨M59, e58, h⟩ := ob_bind h
      have F := F.tr (fX7_lay e58)
      obtain ⟨y60, ey60, h⟩ := ob_lx h
      exact F.tr (fq7 _ _ _ h)
theorem fX7_family {a1 : Int32} {a2 : Int32} {M M' : Mm} (h : rX7_family a1 a2 M = some M') : Fr M M' := by
  unfold rX7_family at h
  have F : Fr M M := Fr.rf
  rcases ob_ite h with ⟨c1, h⟩ | ⟨c1, h⟩
  ·
    exact F.tr (fX7_family_b7 FU _ _ _ h)
  ·
    rcases ob_ite h with ⟨c2, h⟩ | ⟨c2, h⟩
    ·
      obtain ⟨M45, e44, h⟩ := ob_bind h
      have F := F.tr (fX7_some e44)
      exact F.tr (fX7_family_b53 FU _ _ _ h)
    ·
      rcases ob_ite h with ⟨c3, h⟩ | ⟨c3, h⟩
      ·
        exact F.tr (fX7_family_b87 FU _ _ _ h)
      ·
        rcases ob_ite h with ⟨c4, h⟩ | ⟨c4, h⟩
        ·
          obtain ⟨M30, e29, h⟩ := ob_bind h
          have F := F.tr (fX7_lays e29)
          obtain ⟨r33, M32, e31, h⟩ := ob_bd2 h
          have F := F.tr (fX7_draws e31)
          obtain ⟨M35, e34, h⟩ := ob_bind h
          have F := F.tr (fX7_lay e34)
          exact F.tr (fX7_family_b131 FU _ _ _ h)
        ·
          rcases ob_ite h with ⟨c5, h⟩ | ⟨c5, h⟩
          ·
            obtain ⟨M11, e10, h⟩ := ob_bind h
            have F := F.tr (fX7_lays e10)
            exact F.tr (fX7_family_b168 FU _ _ _ h)
          ·
            exact F.tr (fX7_family_b238 FU _ _ _ h)
theorem fX7_draw_b127 {M' : Mm} {r : Int32} : ∀ (x1 : Int32) (M : Mm), rX7_draw_b127 x1 M = some (r, M') → Fr M M' := by
    intro x1 M h
    unfold rX7_draw_b127 at h
    have F : Fr M M := Fr.rf
    rcases ob_ite h with ⟨c19, h⟩ | ⟨c19, h⟩
    ·
      obtain ⟨g20, h⟩ := ob_gd h
      obtain ⟨g21, h⟩ := ob_gd h
      obtain ⟨M22, eM22, h⟩ := ob_lx h
      have F := F.s1 eM22 (by decide)
      exact F.reti h
    ·
      exact F.reti h
theorem fX7_draw_b100 {M' : Mm} {r : Int32} : ∀ (x1 : Int32) (M : Mm), rX7_draw_b100 x1 M = some (r, M') → Fr M M' := by
    intro x1 M h
    unfold rX7_draw_b100 at h
    have F : Fr M M := Fr.rf
    obtain ⟨M17, e16, h⟩ := ob_bind h
    have F := F.tr (fX7_close e16)
    rcases ob_ite h with ⟨c18, h⟩ | ⟨c18, h⟩
    ·
      obtain ⟨r25, M24, e23, h⟩ := ob_bd2 h
      have F := F.tr (fX7_draws e23)
      obtain ⟨M26, eM26, h⟩ := ob_lx h
      have F := F.s1 eM26 (by decide)
      exact F.tr (fX7_draw_b127 _ _ h)
    ·
      exact F.tr (fX7_draw_b127 _ _ h)
theorem fX7_draw_b69 {M' : Mm} {r : Int32} : ∀ (n : Nat), ∀ (x1 : Int32) (x2 : Int32) (x3 : Int32) (M : Mm), rX7_draw_b69 n x1 x2 x3 M = some (r, M') → Fr M M' := by
  intro n
  induction n with
  | zero =>
    intro x1 x2 x3 M h
    cases (show (none : Option (Int32 × Mm)) = some (r, M') from h)
  | succ n fq690 =>
    have fq69 : ∀ (x1 : Int32) (x2 : Int32) (x3 : Int32) (M : Mm), (rX7_draw_b69 n) x1 x2 x3 M = some (r, M') → Fr M M' := fq690
    intro x1 x2 x3 M h
    have h : rX7_draw_b69_s (rX7_draw_b69 n) x1 x2 x3 M = some (r, M') := h
    unfold rX7_draw_b69_s at h
    have F : Fr M M := Fr.rf
    rcases ob_ite h with ⟨c29, h⟩ | ⟨c29, h⟩
    ·
      exact F.tr (fX7_draw_b100 _ _ h)
    ·
      obtain ⟨r32, M31, e30, h⟩ := ob_bd2 h
      have F := F.tr (fX7_draws e30)
      obtain ⟨M34, e33, h⟩ := ob_bind h
      have F := F.tr (fX7_lay e33)
      obtain ⟨y35, ey35, h⟩ := ob_lx h
      exact F.tr (fq69 _ _ _ _ h)
theorem fX7_draw {a1 : Int32} {a2 : Int32} {M M' : Mm} {r : Int32} (h : rX7_draw a1 a2 M = some (r, M')) : Fr M M' := by
  unfold rX7_draw at h
  have F : Fr M M := Fr.rf
  obtain ⟨r3, M2, e1, h⟩ := ob_bd2 h
  have F := F.tr (fX7_in e1)
  rcases ob_ite h with ⟨c4, h⟩ | ⟨c4, h⟩
  ·
    exact F.reti h
  ·
    obtain ⟨r7, M6, e5, h⟩ := ob_bd2 h
    have F := F.tr (fX7_in e5)
    rcases ob_ite h with ⟨c8, h⟩ | ⟨c8, h⟩
    ·
      exact F.reti h
    ·
      obtain ⟨M9, eM9, h⟩ := ob_lx h
      have F := F.s1 eM9 (by decide)
      rcases ob_ite h with ⟨c10, h⟩ | ⟨c10, h⟩
      ·
        obtain ⟨M37, e36, h⟩ := ob_bind h
        have F := F.tr (fX7_deep e36)
        exact F.reti h
      ·
        obtain ⟨M12, e11, h⟩ := ob_bind h
        have F := F.tr (fX7_lays e11)
        rcases ob_ite h with ⟨c13, h⟩ | ⟨c13, h⟩
        ·
          obtain ⟨M28, e27, h⟩ := ob_bind h
          have F := F.tr (fX7_lays e27)
          exact F.tr (fX7_draw_b69 FU _ _ _ _ h)
        ·
          obtain ⟨M15, e14, h⟩ := ob_bind h
          have F := F.tr (fX7_family e14)
          exact F.tr (fX7_draw_b100 _ _ h)
theorem fX7_fails {a1 : Int32} {a2 : Int32} {M M' : Mm} (h : rX7_fails a1 a2 M = some M') : Fr M M' := by
  unfold rX7_fails at h
  have F : Fr M M := Fr.rf
  obtain ⟨M1, eM1, h⟩ := ob_lx h
  have F := F.s1 eM1 (by decide)
  obtain ⟨M2, eM2, h⟩ := ob_lx h
  have F := F.s1 eM2 (by decide)
  exact F.retv h
theorem fX7_begins_b192 {M' : Mm} {q134 : Int32 → Int32 → Int32 → Mm → Option Mm} (fq134 : ∀ (x1 : Int32) (x2 : Int32) (x3 : Int32) (M : Mm), q134 x1 x2 x3 M = some M' → Fr M M') : ∀ (x1 : Int32) (x2 : Int32) (x3 : Int32) (M : Mm), rX7_begins_b192 q134 x1 x2 x3 M = some M' → Fr M M' := by
    intro x1 x2 x3 M h
    unfold rX7_begins_b192 at h
    have F : Fr M M := Fr.rf
    obtain ⟨y23, ey23, h⟩ := ob_lx h
    exact F.tr (fq134 _ _ _ _ h)
theorem fX7_begins_b181 {M' : Mm} {q134 : Int32 → Int32 → Int32 → Mm → Option Mm} (fq134 : ∀ (x1 : Int32) (x2 : Int32) (x3 : Int32) (M : Mm), q134 x1 x2 x3 M = some M' → Fr M M') : ∀ (x1 : Int32) (x2 : Int32) (x3 : Int32) (s0 : Int32) (s1 : Int32) (M : Mm), rX7_begins_b181 q134 x1 x2 x3 s0 s1 M = some M' → Fr M M' := by
    intro x1 x2 x3 s0 s1 M h
    unfold rX7_begins_b181 at h
    have F : Fr M M := Fr.rf
    rcases ob_ite h with ⟨c22, h⟩ | ⟨c22, h⟩
    ·
      exact F.tr (fX7_begins_b192 fq134 _ _ _ _ h)
    ·
      obtain ⟨M25, e24, h⟩ := ob_bind h
      have F := F.tr (fX7_fails e24)
      exact F.tr (fX7_begins_b192 fq134 _ _ _ _ h)
theorem fX7_begins_b134 {M' : Mm} : ∀ (n : Nat), ∀ (x1 : Int32) (x2 : Int32) (x3 : Int32) (M : Mm), rX7_begins_b134 n x1 x2 x3 M = some M' → Fr M M' := by
  intro n
  induction n with
  | zero =>
    intro x1 x2 x3 M h
    cases (show (none : Option Mm) = some M' from h)
  | succ n fq1340 =>
    have fq134 : ∀ (x1 : Int32) (x2 : Int32) (x3 : Int32) (M : Mm), (rX7_begins_b134 n) x1 x2 x3 M = some M' → Fr M M' := fq1340
    intro x1 x2 x3 M h
    have h : rX7_begins_b134_s (rX7_begins_b134 n) x1 x2 x3 M = some M' := h
    unfold rX7_begins_b134_s at h
    have F : Fr M M := Fr.rf
    rcases ob_ite h with ⟨c17, h⟩ | ⟨c17, h⟩
    ·
      exact F.retv h
    ·
      rcases ob_ite h with ⟨c18, h⟩ | ⟨c18, h⟩
      ·
        rcases ob_ite h with ⟨c19, h⟩ | ⟨c19, h⟩
        ·
          obtain ⟨g20, h⟩ := ob_gd h
          rcases ob_ite h with ⟨c21, h⟩ | ⟨c21, h⟩
          ·
            exact F.tr (fX7_begins_b181 fq134 _ _ _ _ _ _ h)
          ·
            exact F.tr (fX7_begins_b181 fq134 _ _ _ _ _ _ h)
        ·
          obtain ⟨M27, e26, h⟩ := ob_bind h
          have F := F.tr (fX7_fails e26)
          exact F.tr (fX7_begins_b192 fq134 _ _ _ _ h)
      ·
        exact F.retv h
theorem fX7_begins_b119 {M' : Mm} : ∀ (x1 : Int32) (x2 : Int32) (s0 : Int32) (M : Mm), rX7_begins_b119 x1 x2 s0 M = some M' → Fr M M' := by
    intro x1 x2 s0 M h
    unfold rX7_begins_b119 at h
    have F : Fr M M := Fr.rf
    obtain ⟨M15, eM15, h⟩ := ob_lx h
    have F := F.s1 eM15 (by decide)
    obtain ⟨M16, eM16, h⟩ := ob_lx h
    have F := F.s1 eM16 (by decide)
    exact F.tr (fX7_begins_b134 FU _ _ _ _ h)
theorem fX7_begins {a1 : Int32} {a2 : Int32} {M M' : Mm} (h : rX7_begins a1 a2 M = some M') : Fr M M' := by
  unfold rX7_begins at h
  have F : Fr M M := Fr.rf
  rcases ob_ite h with ⟨c1, h⟩ | ⟨c1, h⟩
  ·
    obtain ⟨M2, eM2, h⟩ := ob_lx h
    have F := F.s1 eM2 (by decide)
    obtain ⟨M3, eM3, h⟩ := ob_lx h
    have F := F.s1 eM3 (by decide)
    obtain ⟨g4, h⟩ := ob_gd h
    obtain ⟨M5, eM5, h⟩ := ob_lx h
    have F := F.s1 eM5 (by decide)
    obtain ⟨g6, h⟩ := ob_gd h
    obtain ⟨M7, eM7, h⟩ := ob_lx h
    have F := F.s1 eM7 (by decide)
    obtain ⟨g8, h⟩ := ob_gd h
    obtain ⟨M9, eM9, h⟩ := ob_lx h
    have F := F.s1 eM9 (by decide)
    obtain ⟨g10, h⟩ := ob_gd h
    obtain ⟨M11, eM11, h⟩ := ob_lx h
    have F := F.s1 eM11 (by decide)
    obtain ⟨g12, h⟩ := ob_gd h
    obtain ⟨M13, eM13, h⟩ := ob_lx h
    have F := F.s1 eM13 (by decide)
    rcases ob_ite h with ⟨c14, h⟩ | ⟨c14, h⟩
    ·
      exact F.tr (fX7_begins_b119 _ _ _ _ h)
    ·
      exact F.tr (fX7_begins_b119 _ _ _ _ h)
  ·
    obtain ⟨M29, e28, h⟩ := ob_bind h
    have F := F.tr (fX7_fails e28)
    exact F.retv h
theorem fX7_ends_b97 {M' : Mm} : ∀ (x1 : Int32) (x2 : Int32) (M : Mm), rX7_ends_b97 x1 x2 M = some M' → Fr M M' := by
    intro x1 x2 M h
    unfold rX7_ends_b97 at h
    have F : Fr M M := Fr.rf
    obtain ⟨g7, h⟩ := ob_gd h
    obtain ⟨g8, h⟩ := ob_gd h
    obtain ⟨M9, eM9, h⟩ := ob_lx h
    have F := F.s1 eM9 (by decide)
    obtain ⟨g10, h⟩ := ob_gd h
    obtain ⟨M11, eM11, h⟩ := ob_lx h
    have F := F.s1 eM11 (by decide)
    exact F.retv h
theorem fX7_ends {a1 : Int32} {a2 : Int32} {M M' : Mm} (h : rX7_ends a1 a2 M = some M') : Fr M M' := by
  unfold rX7_ends at h
  have F : Fr M M := Fr.rf
  obtain ⟨g1, h⟩ := ob_gd h
  obtain ⟨y2, ey2, h⟩ := ob_lx h
  obtain ⟨g3, h⟩ := ob_gd h
  obtain ⟨g4, h⟩ := ob_gd h
  obtain ⟨M5, eM5, h⟩ := ob_lx h
  have F := F.s1 eM5 (by decide)
  rcases ob_ite h with ⟨c6, h⟩ | ⟨c6, h⟩
  ·
    obtain ⟨g12, h⟩ := ob_gd h
    obtain ⟨g13, h⟩ := ob_gd h
    obtain ⟨g14, h⟩ := ob_gd h
    obtain ⟨M15, eM15, h⟩ := ob_lx h
    have F := F.s1 eM15 (by decide)
    obtain ⟨g16, h⟩ := ob_gd h
    obtain ⟨g17, h⟩ := ob_gd h
    obtain ⟨M18, eM18, h⟩ := ob_lx h
    have F := F.s1 eM18 (by decide)
    obtain ⟨g19, h⟩ := ob_gd h
    obtain ⟨g20, h⟩ := ob_gd h
    obtain ⟨M21, eM21, h⟩ := ob_lx h
    have F := F.s1 eM21 (by decide)
    obtain ⟨g22, h⟩ := ob_gd h
    obtain ⟨g23, h⟩ := ob_gd h
    obtain ⟨M24, eM24, h⟩ := ob_lx h
    have F := F.s1 eM24 (by decide)
    exact F.tr (fX7_ends_b97 _ _ _ h)
  ·
    exact F.tr (fX7_ends_b97 _ _ _ h)
theorem fX7_has_b33 {M' : Mm} {r : Int32} : ∀ (M : Mm), rX7_has_b33  M = some (r, M') → Fr M M' := by
    intro M h
    unfold rX7_has_b33 at h
    have F : Fr M M := Fr.rf
    rcases ob_ite h with ⟨c3, h⟩ | ⟨c3, h⟩
    ·
      exact F.retz h
    ·
      exact F.retz h
theorem fX7_has {a1 : Int32} {a2 : Int32} {M M' : Mm} {r : Int32} (h : rX7_has a1 a2 M = some (r, M')) : Fr M M' := by
  unfold rX7_has at h
  have F : Fr M M := Fr.rf
  obtain ⟨g1, h⟩ := ob_gd h
  rcases ob_ite h with ⟨c2, h⟩ | ⟨c2, h⟩
  ·
    exact F.tr (fX7_has_b33  _ h)
  ·
    obtain ⟨g4, h⟩ := ob_gd h
    obtain ⟨M6, e5, h⟩ := ob_bind h
    have F := F.tr (fX7_fails e5)
    exact F.tr (fX7_has_b33  _ h)
theorem fX7_pays_b56 {M' : Mm} {r : Int32} : ∀ (M : Mm), rX7_pays_b56  M = some (r, M') → Fr M M' := by
    intro M h
    unfold rX7_pays_b56 at h
    have F : Fr M M := Fr.rf
    rcases ob_ite h with ⟨c4, h⟩ | ⟨c4, h⟩
    ·
      exact F.retz h
    ·
      exact F.retz h
theorem fX7_pays {a1 : Int32} {a2 : Int32} {a3 : Int32} {M M' : Mm} {r : Int32} (h : rX7_pays a1 a2 a3 M = some (r, M')) : Fr M M' := by
  unfold rX7_pays at h
  have F : Fr M M := Fr.rf
  rcases ob_ite h with ⟨c1, h⟩ | ⟨c1, h⟩
  ·
    rcases ob_ite h with ⟨c2, h⟩ | ⟨c2, h⟩
    ·
      obtain ⟨M3, eM3, h⟩ := ob_lx h
      have F := F.s1 eM3 (by decide)
      exact F.tr (fX7_pays_b56  _ h)
    ·
      obtain ⟨M6, e5, h⟩ := ob_bind h
      have F := F.tr (fX7_fails e5)
      exact F.tr (fX7_pays_b56  _ h)
  ·
    obtain ⟨M8, e7, h⟩ := ob_bind h
    have F := F.tr (fX7_fails e7)
    exact F.tr (fX7_pays_b56  _ h)
theorem fX7_comes {a1 : Int32} {M M' : Mm} (h : rX7_comes a1 M = some M') : Fr M M' := by
  unfold rX7_comes at h
  have F : Fr M M := Fr.rf
  obtain ⟨g1, h⟩ := ob_gd h
  obtain ⟨M2, eM2, h⟩ := ob_lx h
  have F := F.s1 eM2 (by decide)
  obtain ⟨M3, eM3, h⟩ := ob_lx h
  have F := F.s1 eM3 (by decide)
  exact F.retv h
theorem fX7_closes {a1 : Int32} {a2 : Int32} {M M' : Mm} (h : rX7_closes a1 a2 M = some M') : Fr M M' := by
  unfold rX7_closes at h
  have F : Fr M M := Fr.rf
  obtain ⟨r3, M2, e1, h⟩ := ob_bd2 h
  have F := F.tr (fX7_has e1)
  rcases ob_ite h with ⟨c4, h⟩ | ⟨c4, h⟩
  ·
    exact F.retv h
  ·
    obtain ⟨g5, h⟩ := ob_gd h
    obtain ⟨g6, h⟩ := ob_gd h
    obtain ⟨r9, M8, e7, h⟩ := ob_bd2 h
    have F := F.tr (fX7_sumOf e7)
    rcases ob_ite h with ⟨c10, h⟩ | ⟨c10, h⟩
    ·
      obtain ⟨g11, h⟩ := ob_gd h
      rcases ob_ite h with ⟨c12, h⟩ | ⟨c12, h⟩
      ·
        obtain ⟨M13, eM13, h⟩ := ob_lx h
        have F := F.s1 eM13 (by decide)
        rcases ob_ite h with ⟨c14, h⟩ | ⟨c14, h⟩
        ·
          exact F.retv h
        ·
          obtain ⟨M16, e15, h⟩ := ob_bind h
          have F := F.tr (fX7_ends e15)
          exact F.retv h
      ·
        obtain ⟨M18, e17, h⟩ := ob_bind h
        have F := F.tr (fX7_fails e17)
        exact F.retv h
    ·
      obtain ⟨M20, e19, h⟩ := ob_bind h
      have F := F.tr (fX7_fails e19)
      exact F.retv h
theorem fX7_copy_b38 {M' : Mm} : ∀ (x2 : Int32) (M : Mm), rX7_copy_b38 x2 M = some M' → Fr M M' := by
    intro x2 M h
    unfold rX7_copy_b38 at h
    have F : Fr M M := Fr.rf
    obtain ⟨M9, e8, h⟩ := ob_bind h
    have F := F.tr (fX7_fails e8)
    exact F.retv h
theorem fX7_copy_b87 {M' : Mm} : ∀ (n : Nat), ∀ (x1 : Int32) (x2 : Int32) (x3 : Int32) (x4 : Int32) (M : Mm), rX7_copy_b87 n x1 x2 x3 x4 M = some M' → Fr M M' := by
  intro n
  induction n with
  | zero =>
    intro x1 x2 x3 x4 M h
    cases (show (none : Option Mm) = some M' from h)
  | succ n fq870 =>
    have fq87 : ∀ (x1 : Int32) (x2 : Int32) (x3 : Int32) (x4 : Int32) (M : Mm), (rX7_copy_b87 n) x1 x2 x3 x4 M = some M' → Fr M M' := fq870
    intro x1 x2 x3 x4 M h
    have h : rX7_copy_b87_s (rX7_copy_b87 n) x1 x2 x3 x4 M = some M' := h
    unfold rX7_copy_b87_s at h
    have F : Fr M M := Fr.rf
    obtain ⟨g22, h⟩ := ob_gd h
    rcases ob_ite h with ⟨c23, h⟩ | ⟨c23, h⟩
    ·
      obtain ⟨M25, e24, h⟩ := ob_bind h
      have F := F.tr (fX7_ends e24)
      exact F.retv h
    ·
      obtain ⟨g26, h⟩ := ob_gd h
      obtain ⟨M28, e27, h⟩ := ob_bind h
      have F := F.tr (fX7_comes e27)
      obtain ⟨y29, ey29, h⟩ := ob_lx h
      exact F.tr (fq87 _ _ _ _ _ h)
theorem fX7_copy {a1 : Int32} {a2 : Int32} {M M' : Mm} (h : rX7_copy a1 a2 M = some M') : Fr M M' := by
  unfold rX7_copy at h
  have F : Fr M M := Fr.rf
  obtain ⟨r3, M2, e1, h⟩ := ob_bd2 h
  have F := F.tr (fX7_has e1)
  rcases ob_ite h with ⟨c4, h⟩ | ⟨c4, h⟩
  ·
    exact F.retv h
  ·
    obtain ⟨g5, h⟩ := ob_gd h
    obtain ⟨y6, ey6, h⟩ := ob_lx h
    rcases ob_ite h with ⟨c7, h⟩ | ⟨c7, h⟩
    ·
      exact F.tr (fX7_copy_b38 _ _ h)
    ·
      obtain ⟨g10, h⟩ := ob_gd h
      rcases ob_ite h with ⟨c11, h⟩ | ⟨c11, h⟩
      ·
        obtain ⟨r14, M13, e12, h⟩ := ob_bd2 h
        have F := F.tr (fX7_has e12)
        rcases ob_ite h with ⟨c15, h⟩ | ⟨c15, h⟩
        ·
          exact F.retv h
        ·
          obtain ⟨g16, h⟩ := ob_gd h
          obtain ⟨g17, h⟩ := ob_gd h
          obtain ⟨r20, M19, e18, h⟩ := ob_bd2 h
          have F := F.tr (fX7_pays e18)
          rcases ob_ite h with ⟨c21, h⟩ | ⟨c21, h⟩
          ·
            exact F.retv h
          ·
            exact F.tr (fX7_copy_b87 FU _ _ _ _ _ h)
      ·
        exact F.tr (fX7_copy_b38 _ _ h)
theorem fX7_nest {a1 : Int32} {M M' : Mm} (h : rX7_nest a1 M = some M') : Fr M M' := by
  unfold rX7_nest at h
  have F : Fr M M := Fr.rf
  obtain ⟨r3, M2, e1, h⟩ := ob_bd2 h
  have F := F.tr (fX7_has e1)
  rcases ob_ite h with ⟨c4, h⟩ | ⟨c4, h⟩
  ·
    exact F.retv h
  ·
    obtain ⟨g5, h⟩ := ob_gd h
    obtain ⟨g6, h⟩ := ob_gd h
    obtain ⟨y7, ey7, h⟩ := ob_lx h
    obtain ⟨r10, M9, e8, h⟩ := ob_bd2 h
    have F := F.tr (fX7_has e8)
    rcases ob_ite h with ⟨c11, h⟩ | ⟨c11, h⟩
    ·
      exact F.retv h
    ·
      rcases ob_ite h with ⟨c12, h⟩ | ⟨c12, h⟩
      ·
        rcases ob_ite h with ⟨c13, h⟩ | ⟨c13, h⟩
        ·
          obtain ⟨M14, eM14, h⟩ := ob_lx h
          have F := F.s1 eM14 (by decide)
          obtain ⟨M16, e15, h⟩ := ob_bind h
          have F := F.tr (fX7_begins e15)
          exact F.retv h
        ·
          obtain ⟨M18, e17, h⟩ := ob_bind h
          have F := F.tr (fX7_fails e17)
          exact F.retv h
      ·
        obtain ⟨M20, e19, h⟩ := ob_bind h
        have F := F.tr (fX7_fails e19)
        exact F.retv h
theorem fX7_again_b69 {M' : Mm} : ∀ (n : Nat), ∀ (x1 : Int32) (x2 : Int32) (x4 : Int32) (x5 : Int32) (M : Mm), rX7_again_b69 n x1 x2 x4 x5 M = some M' → Fr M M' := by
  intro n
  induction n with
  | zero =>
    intro x1 x2 x4 x5 M h
    cases (show (none : Option Mm) = some M' from h)
  | succ n fq690 =>
    have fq69 : ∀ (x1 : Int32) (x2 : Int32) (x4 : Int32) (x5 : Int32) (M : Mm), (rX7_again_b69 n) x1 x2 x4 x5 M = some M' → Fr M M' := fq690
    intro x1 x2 x4 x5 M h
    have h : rX7_again_b69_s (rX7_again_b69 n) x1 x2 x4 x5 M = some M' := h
    unfold rX7_again_b69_s at h
    have F : Fr M M := Fr.rf
    rcases ob_ite h with ⟨c15, h⟩ | ⟨c15, h⟩
    ·
      obtain ⟨M17, e16, h⟩ := ob_bind h
      have F := F.tr (fX7_ends e16)
      exact F.retv h
    ·
      obtain ⟨g18, h⟩ := ob_gd h
      obtain ⟨g19, h⟩ := ob_gd h
      obtain ⟨M21, e20, h⟩ := ob_bind h
      have F := F.tr (fX7_comes e20)
      obtain ⟨y22, ey22, h⟩ := ob_lx h
      exact F.tr (fq69 _ _ _ _ _ h)
theorem fX7_again {a1 : Int32} {a2 : Int32} {M M' : Mm} (h : rX7_again a1 a2 M = some M') : Fr M M' := by
  unfold rX7_again at h
  have F : Fr M M := Fr.rf
  obtain ⟨r3, M2, e1, h⟩ := ob_bd2 h
  have F := F.tr (fX7_has e1)
  rcases ob_ite h with ⟨c4, h⟩ | ⟨c4, h⟩
  ·
    exact F.retv h
  ·
    obtain ⟨g5, h⟩ := ob_gd h
    obtain ⟨y6, ey6, h⟩ := ob_lx h
    obtain ⟨g7, h⟩ := ob_gd h
    rcases ob_ite h with ⟨c8, h⟩ | ⟨c8, h⟩
    ·
      obtain ⟨g9, h⟩ := ob_gd h
      obtain ⟨y10, ey10, h⟩ := ob_lx h
      obtain ⟨r13, M12, e11, h⟩ := ob_bd2 h
      have F := F.tr (fX7_pays e11)
      rcases ob_ite h with ⟨c14, h⟩ | ⟨c14, h⟩
      ·
        exact F.retv h
      ·
        exact F.tr (fX7_again_b69 FU _ _ _ _ _ h)
    ·
      obtain ⟨M24, e23, h⟩ := ob_bind h
      have F := F.tr (fX7_fails e23)
      exact F.retv h
theorem fX7_codesOf_b166 {M' : Mm} {r : Int32} : ∀ (M : Mm), rX7_codesOf_b166  M = some (r, M') → Fr M M' := by
    intro M h
    unfold rX7_codesOf_b166 at h
    have F : Fr M M := Fr.rf
    exact F.retz h
theorem fX7_codesOf_b135 {M' : Mm} {r : Int32} {q103 : Int32 → Int32 → Int32 → Int32 → Int32 → Int32 → Int32 → Int32 → Mm → Option (Int32 × Mm)} (fq103 : ∀ (x1 : Int32) (x2 : Int32) (x3 : Int32) (x4 : Int32) (x5 : Int32) (x6 : Int32) (x7 : Int32) (x8 : Int32) (M : Mm), q103 x1 x2 x3 x4 x5 x6 x7 x8 M = some (r, M') → Fr M M') : ∀ (x1 : Int32) (x2 : Int32) (x3 : Int32) (x4 : Int32) (x5 : Int32) (x6 : Int32) (x7 : Int32) (x8 : Int32) (M : Mm), rX7_codesOf_b135 q103 x1 x2 x3 x4 x5 x6 x7 x8 M = some (r, M') → Fr M M' := by
    intro x1 x2 x3 x4 x5 x6 x7 x8 M h
    unfold rX7_codesOf_b135 at h
    have F : Fr M M := Fr.rf
    obtain ⟨y11, ey11, h⟩ := ob_lx h
    exact F.tr (fq103 _ _ _ _ _ _ _ _ _ h)
theorem fX7_codesOf_b103 {M' : Mm} {r : Int32} {q87 : Int32 → Int32 → Int32 → Int32 → Int32 → Int32 → Int32 → Mm → Option (Int32 × Mm)} (fq87 : ∀ (x1 : Int32) (x2 : Int32) (x3 : Int32) (x4 : Int32) (x5 : Int32) (x6 : Int32) (x7 : Int32) (M : Mm), q87 x1 x2 x3 x4 x5 x6 x7 M = some (r, M') → Fr M M') : ∀ (n : Nat), ∀ (x1 : Int32) (x2 : Int32) (x3 : Int32) (x4 : Int32) (x5 : Int32) (x6 : Int32) (x7 : Int32) (x8 : Int32) (M : Mm), rX7_codesOf_b103 q87 n x1 x2 x3 x4 x5 x6 x7 x8 M = some (r, M') → Fr M M' := by
  intro n
  induction n with
  | zero =>
    intro x1 x2 x3 x4 x5 x6 x7 x8 M h
    cases (show (none : Option (Int32 × Mm)) = some (r, M') from h)
  | succ n fq1030 =>
    have fq103 : ∀ (x1 : Int32) (x2 : Int32) (x3 : Int32) (x4 : Int32) (x5 : Int32) (x6 : Int32) (x7 : Int32) (x8 : Int32) (M : Mm), (rX7_codesOf_b103 q87 n) x1 x2 x3 x4 x5 x6 x7 x8 M = some (r, M') → Fr M M' := fq1030
    intro x1 x2 x3 x4 x5 x6 x7 x8 M h
    have h : rX7_codesOf_b103_s q87 (rX7_codesOf_b103 q87 n) x1 x2 x3 x4 x5 x6 x7 x8 M = some (r, M') := h
    unfold rX7_codesOf_b103_s at h
    have F : Fr M M := Fr.rf
    rcases ob_ite h with ⟨c7, h⟩ | ⟨c7, h⟩
    ·
      obtain ⟨y8, ey8, h⟩ := ob_lx h
      exact F.tr (fq87 _ _ _ _ _ _ _ _ h)
    ·
      obtain ⟨g9, h⟩ := ob_gd h
      rcases ob_ite h with ⟨c10, h⟩ | ⟨c10, h⟩
      ·
        obtain ⟨g12, h⟩ := ob_gd h
        obtain ⟨M13, eM13, h⟩ := ob_lx h
        have F := F.s1 eM13 (by decide)
        obtain ⟨y14, ey14, h⟩ := ob_lx h
        exact F.tr (fX7_codesOf_b135 fq103 _ _ _ _ _ _ _ _ _ h)
      ·
        exact F.tr (fX7_codesOf_b135 fq103 _ _ _ _ _ _ _ _ _ h)
theorem fX7_codesOf_b87 {M' : Mm} {r : Int32} : ∀ (n : Nat), ∀ (x1 : Int32) (x2 : Int32) (x3 : Int32) (x4 : Int32) (x5 : Int32) (x6 : Int32) (x7 : Int32) (M : Mm), rX7_codesOf_b87 n x1 x2 x3 x4 x5 x6 x7 M = some (r, M') → Fr M M' := by
  intro n
  induction n with
  | zero =>
    intro x1 x2 x3 x4 x5 x6 x7 M h
    cases (show (none : Option (Int32 × Mm)) = some (r, M') from h)
  | succ n fq870 =>
    have fq87 : ∀ (x1 : Int32) (x2 : Int32) (x3 : Int32) (x4 : Int32) (x5 : Int32) (x6 : Int32) (x7 : Int32) (M : Mm), (rX7_codesOf_b87 n) x1 x2 x3 x4 x5 x6 x7 M = some (r, M') → Fr M M' := fq870
    intro x1 x2 x3 x4 x5 x6 x7 M h
    have h : rX7_codesOf_b87_s (rX7_codesOf_b87 n) x1 x2 x3 x4 x5 x6 x7 M = some (r, M') := h
    unfold rX7_codesOf_b87_s at h
    have F : Fr M M := Fr.rf
    rcases ob_ite h with ⟨c2, h⟩ | ⟨c2, h⟩
    ·
      rcases ob_ite h with ⟨c3, h⟩ | ⟨c3, h⟩
      ·
        exact F.tr (fX7_codesOf_b166  _ h)
      ·
        rcases ob_ite h with ⟨c4, h⟩ | ⟨c4, h⟩
        ·
          rcases ob_ite h with ⟨c5, h⟩ | ⟨c5, h⟩
          ·
            exact F.tr (fX7_codesOf_b166  _ h)
          ·
            exact F.retz h
        ·
          exact F.retz h
    ·
      obtain ⟨y6, ey6, h⟩ := ob_lx h
      exact F.tr (fX7_codesOf_b103 fq87 FU _ _ _ _ _ _ _ _ _ h)
theorem fX7_codesOf_b73 {M' : Mm} {r : Int32} {q11 : Int32 → Int32 → Int32 → Int32 → Int32 → Int32 → Mm → Option (Int32 × Mm)} (fq11 : ∀ (x1 : Int32) (x2 : Int32) (x3 : Int32) (x4 : Int32) (x5 : Int32) (x6 : Int32) (M : Mm), q11 x1 x2 x3 x4 x5 x6 M = some (r, M') → Fr M M') : ∀ (x1 : Int32) (x2 : Int32) (x3 : Int32) (x4 : Int32) (x6 : Int32) (s0 : Int32) (M : Mm), rX7_codesOf_b73 q11 x1 x2 x3 x4 x6 s0 M = some (r, M') → Fr M M' := by
    intro x1 x2 x3 x4 x6 s0 M h
    unfold rX7_codesOf_b73 at h
    have F : Fr M M := Fr.rf
    obtain ⟨y22, ey22, h⟩ := ob_lx h
    exact F.tr (fq11 _ _ _ _ _ _ _ h)
theorem fX7_codesOf_b58 {M' : Mm} {r : Int32} {q11 : Int32 → Int32 → Int32 → Int32 → Int32 → Int32 → Mm → Option (Int32 × Mm)} (fq11 : ∀ (x1 : Int32) (x2 : Int32) (x3 : Int32) (x4 : Int32) (x5 : Int32) (x6 : Int32) (M : Mm), q11 x1 x2 x3 x4 x5 x6 M = some (r, M') → Fr M M') : ∀ (x1 : Int32) (x2 : Int32) (x3 : Int32) (x5 : Int32) (x6 : Int32) (x7 : Int32) (s0 : Int32) (s1 : Int32) (M : Mm), rX7_codesOf_b58 q11 x1 x2 x3 x5 x6 x7 s0 s1 M = some (r, M') → Fr M M' := by
    intro x1 x2 x3 x5 x6 x7 s0 s1 M h
    unfold rX7_codesOf_b58 at h
    have F : Fr M M := Fr.rf
    obtain ⟨y20, ey20, h⟩ := ob_lx h
    rcases ob_ite h with ⟨c21, h⟩ | ⟨c21, h⟩
    ·
      exact F.tr (fX7_codesOf_b73 fq11 _ _ _ _ _ _ _ h)
    ·
      exact F.tr (fX7_codesOf_b73 fq11 _ _ _ _ _ _ _ h)
theorem fX7_codesOf_b44 {M' : Mm} {r : Int32} {q11 : Int32 → Int32 → Int32 → Int32 → Int32 → Int32 → Mm → Option (Int32 × Mm)} (fq11 : ∀ (x1 : Int32) (x2 : Int32) (x3 : Int32) (x4 : Int32) (x5 : Int32) (x6 : Int32) (M : Mm), q11 x1 x2 x3 x4 x5 x6 M = some (r, M') → Fr M M') : ∀ (x1 : Int32) (x2 : Int32) (x4 : Int32) (x5 : Int32) (x6 : Int32) (x7 : Int32) (s0 : Int32) (s1 : Int32) (M : Mm), rX7_codesOf_b44 q11 x1 x2 x4 x5 x6 x7 s0 s1 M = some (r, M') → Fr M M' := by
    intro x1 x2 x4 x5 x6 x7 s0 s1 M h
    unfold rX7_codesOf_b44 at h
    have F : Fr M M := Fr.rf
    obtain ⟨y18, ey18, h⟩ := ob_lx h
    rcases ob_ite h with ⟨c19, h⟩ | ⟨c19, h⟩
    ·
      exact F.tr (fX7_codesOf_b58 fq11 _ _ _ _ _ _ _ _ _ h)
    ·
      exact F.tr (fX7_codesOf_b58 fq11 _ _ _ _ _ _ _ _ _ h)
theorem fX7_codesOf_b11 {M' : Mm} {r : Int32} : ∀ (n : Nat), ∀ (x1 : Int32) (x2 : Int32) (x3 : Int32) (x4 : Int32) (x5 : Int32) (x6 : Int32) (M : Mm), rX7_codesOf_b11 n x1 x2 x3 x4 x5 x6 M = some (r, M') → Fr M M' := by
  intro n
  induction n with
  | zero =>
    intro x1 x2 x3 x4 x5 x6 M h
    cases (show (none : Option (Int32 × Mm)) = some (r, M') from h)
  | succ n fq110 =>
    have fq11 : ∀ (x1 : Int32) (x2 : Int32) (x3 : Int32) (x4 : Int32) (x5 : Int32) (x6 : Int32) (M : Mm), (rX7_codesOf_b11 n) x1 x2 x3 x4 x5 x6 M = some (r, M') → Fr M M' := fq110
    intro x1 x2 x3 x4 x5 x6 M h
    have h : rX7_codesOf_b11_s (rX7_codesOf_b11 n) x1 x2 x3 x4 x5 x6 M = some (r, M') := h
    unfold rX7_codesOf_b11_s at h
    have F : Fr M M := Fr.rf
    rcases ob_ite h with ⟨c1, h⟩ | ⟨c1, h⟩
    ·
      exact F.tr (fX7_codesOf_b87 FU _ _ _ _ _ _ _ _ h)
    ·
      obtain ⟨g15, h⟩ := ob_gd h
      obtain ⟨y16, ey16, h⟩ := ob_lx h
      rcases ob_ite h with ⟨c17, h⟩ | ⟨c17, h⟩
      ·
        exact F.tr (fX7_codesOf_b44 fq11 _ _ _ _ _ _ _ _ _ h)
      ·
        exact F.tr (fX7_codesOf_b44 fq11 _ _ _ _ _ _ _ _ _ h)
theorem fX7_codesOf {a1 : Int32} {a2 : Int32} {M M' : Mm} {r : Int32} (h : rX7_codesOf a1 a2 M = some (r, M')) : Fr M M' := by
  unfold rX7_codesOf at h
  have F : Fr M M := Fr.rf
  exact F.tr (fX7_codesOf_b11 FU _ _ _ _ _ _ _ h)
theorem fX7_bits_b232 {M' : Mm} : ∀ (n : Nat), ∀ (x1 : Int32) (x6 : Int32) (x7 : Int32) (M : Mm), rX7_bits_b232 n x1 x6 x7 M = some M' → Fr M M' := by
  intro n
  induction n with
  | zero =>
    intro x1 x6 x7 M h
    cases (show (none : Option Mm) = some M' from h)
  | succ n fq2320 =>
    have fq232 : ∀ (x1 : Int32) (x6 : Int32) (x7 : Int32) (M : Mm), (rX7_bits_b232 n) x1 x6 x7 M = some M' → Fr M M' := fq2320
    intro x1 x6 x7 M h
    have h : rX7_bits_b232_s (rX7_bits_b232 n) x1 x6 x7 M = some M' := h
    unfold rX7_bits_b232_s at h
    have F : Fr M M := Fr.rf
    rcases ob_ite h with ⟨c5, h⟩ | ⟨c5, h⟩
    ·
      obtain ⟨M7, e6, h⟩ := ob_bind h
      have F := F.tr (fX7_ends e6)
      exact F.retv h
    ·
      obtain ⟨g9, h⟩ := ob_gd h
      rcases ob_ite h with ⟨c11, h⟩ | ⟨c11, h⟩
      ·
        obtain ⟨M15, e14, h⟩ := ob_bind h
        have F := F.tr (fX7_fails e14)
        exact F.retv h
      ·
        obtain ⟨y12, ey12, h⟩ := ob_lx h
        exact F.tr (fq232 _ _ _ _ h)
theorem fX7_bits_b213 {M' : Mm} {q33 : Int32 → Int32 → Int32 → Int32 → Int32 → Int32 → Int32 → Int32 → Int32 → Int32 → Mm → Option Mm} (fq33 : ∀ (x1 : Int32) (x2 : Int32) (x3 : Int32) (x5 : Int32) (x6 : Int32) (x7 : Int32) (x8 : Int32) (x9 : Int32) (x10 : Int32) (x11 : Int32) (M : Mm), q33 x1 x2 x3 x5 x6 x7 x8 x9 x10 x11 M = some M' → Fr M M') : ∀ (x1 : Int32) (x2 : Int32) (x3 : Int32) (x5 : Int32) (x6 : Int32) (x7 : Int32) (x8 : Int32) (x9 : Int32) (x10 : Int32) (x11 : Int32) (M : Mm), rX7_bits_b213 q33 x1 x2 x3 x5 x6 x7 x8 x9 x10 x11 M = some M' → Fr M M' := by
    intro x1 x2 x3 x5 x6 x7 x8 x9 x10 x11 M h
    unfold rX7_bits_b213 at h
    have F : Fr M M := Fr.rf
    exact F.tr (fq33 _ _ _ _ _ _ _ _ _ _ _ h)
theorem fX7_bits_b194 {M' : Mm} {q33 : Int32 → Int32 → Int32 → Int32 → Int32 → Int32 → Int32 → Int32 → Int32 → Int32 → Mm → Option Mm} (fq33 : ∀ (x1 : Int32) (x2 : Int32) (x3 : Int32) (x5 : Int32) (x6 : Int32) (x7 : Int32) (x8 : Int32) (x9 : Int32) (x10 : Int32) (x11 : Int32) (M : Mm), q33 x1 x2 x3 x5 x6 x7 x8 x9 x10 x11 M = some M' → Fr M M') : ∀ (x1 : Int32) (x2 : Int32) (x3 : Int32) (x5 : Int32) (x6 : Int32) (x7 : Int32) (x8 : Int32) (x9 : Int32) (x10 : Int32) (x11 : Int32) (x12 : Int32) (M : Mm), rX7_bits_b194 q33 x1 x2 x3 x5 x6 x7 x8 x9 x10 x11 x12 M = some M' → Fr M M' := by
    intro x1 x2 x3 x5 x6 x7 x8 x9 x10 x11 x12 M h
    unfold rX7_bits_b194 at h
    have F : Fr M M := Fr.rf
    rcases ob_ite h with ⟨c32, h⟩ | ⟨c32, h⟩
    ·
      rcases ob_ite h with ⟨c33, h⟩ | ⟨c33, h⟩
      ·
        obtain ⟨M35, e34, h⟩ := ob_bind h
        have F := F.tr (fX7_fails e34)
        exact F.retv h
      ·
        exact F.tr (fX7_bits_b213 fq33 _ _ _ _ _ _ _ _ _ _ _ h)
    ·
      exact F.tr (fX7_bits_b213 fq33 _ _ _ _ _ _ _ _ _ _ _ h)
theorem fX7_bits_b186 {M' : Mm} {q92 : Int32 → Int32 → Int32 → Int32 → Int32 → Int32 → Int32 → Int32 → Int32 → Int32 → Int32 → Int32 → Mm → Option Mm} (fq92 : ∀ (x1 : Int32) (x2 : Int32) (x3 : Int32) (x5 : Int32) (x6 : Int32) (x7 : Int32) (x8 : Int32) (x9 : Int32) (x10 : Int32) (x11 : Int32) (x12 : Int32) (x13 : Int32) (M : Mm), q92 x1 x2 x3 x5 x6 x7 x8 x9 x10 x11 x12 x13 M = some M' → Fr M M') : ∀ (x1 : Int32) (x2 : Int32) (x3 : Int32) (x5 : Int32) (x6 : Int32) (x7 : Int32) (x8 : Int32) (x9 : Int32) (x10 : Int32) (x11 : Int32) (x13 : Int32) (s0 : Int32) (M : Mm), rX7_bits_b186 q92 x1 x2 x3 x5 x6 x7 x8 x9 x10 x11 x13 s0 M = some M' → Fr M M' := by
    intro x1 x2 x3 x5 x6 x7 x8 x9 x10 x11 x13 s0 M h
    unfold rX7_bits_b186 at h
    have F : Fr M M := Fr.rf
    obtain ⟨y41, ey41, h⟩ := ob_lx h
    exact F.tr (fq92 _ _ _ _ _ _ _ _ _ _ _ _ _ h)
theorem fX7_bits_b181 {M' : Mm} {q92 : Int32 → Int32 → Int32 → Int32 → Int32 → Int32 → Int32 → Int32 → Int32 → Int32 → Int32 → Int32 → Mm → Option Mm} (fq92 : ∀ (x1 : Int32) (x2 : Int32) (x3 : Int32) (x5 : Int32) (x6 : Int32) (x7 : Int32) (x8 : Int32) (x9 : Int32) (x10 : Int32) (x11 : Int32) (x12 : Int32) (x13 : Int32) (M : Mm), q92 x1 x2 x3 x5 x6 x7 x8 x9 x10 x11 x12 x13 M = some M' → Fr M M') : ∀ (x1 : Int32) (x2 : Int32) (x3 : Int32) (x5 : Int32) (x6 : Int32) (x7 : Int32) (x8 : Int32) (x9 : Int32) (x10 : Int32) (x11 : Int32) (x13 : Int32) (M : Mm), rX7_bits_b181 q92 x1 x2 x3 x5 x6 x7 x8 x9 x10 x11 x13 M = some M' → Fr M M' := by
    intro x1 x2 x3 x5 x6 x7 x8 x9 x10 x11 x13 M h
    unfold rX7_bits_b181 at h
    have F : Fr M M := Fr.rf
    exact F.tr (fX7_bits_b186 fq92 _ _ _ _ _ _ _ _ _ _ _ _ _ h)
theorem fX7_bits_b185 {M' : Mm} {q92 : Int32 → Int32 → Int32 → Int32 → Int32 → Int32 → Int32 → Int32 → Int32 → Int32 → Int32 → Int32 → Mm → Option Mm} (fq92 : ∀ (x1 : Int32) (x2 : Int32) (x3 : Int32) (x5 : Int32) (x6 : Int32) (x7 : Int32) (x8 : Int32) (x9 : Int32) (x10 : Int32) (x11 : Int32) (x12 : Int32) (x13 : Int32) (M : Mm), q92 x1 x2 x3 x5 x6 x7 x8 x9 x10 x11 x12 x13 M = some M' → Fr M M') : ∀ (x1 : Int32) (x2 : Int32) (x3 : Int32) (x5 : Int32) (x6 : Int32) (x7 : Int32) (x8 : Int32) (x9 : Int32) (x10 : Int32) (x11 : Int32) (x13 : Int32) (M : Mm), rX7_bits_b185 q92 x1 x2 x3 x5 x6 x7 x8 x9 x10 x11 x13 M = some M' → Fr M M' := by
    intro x1 x2 x3 x5 x6 x7 x8 x9 x10 x11 x13 M h
    unfold rX7_bits_b185 at h
    have F : Fr M M := Fr.rf
    exact F.tr (fX7_bits_b186 fq92 _ _ _ _ _ _ _ _ _ _ _ _ _ h)
theorem fX7_bits_b151 {M' : Mm} {q92 : Int32 → Int32 → Int32 → Int32 → Int32 → Int32 → Int32 → Int32 → Int32 → Int32 → Int32 → Int32 → Mm → Option Mm} (fq92 : ∀ (x1 : Int32) (x2 : Int32) (x3 : Int32) (x5 : Int32) (x6 : Int32) (x7 : Int32) (x8 : Int32) (x9 : Int32) (x10 : Int32) (x11 : Int32) (x12 : Int32) (x13 : Int32) (M : Mm), q92 x1 x2 x3 x5 x6 x7 x8 x9 x10 x11 x12 x13 M = some M' → Fr M M') : ∀ (x1 : Int32) (x2 : Int32) (x3 : Int32) (x5 : Int32) (x6 : Int32) (x7 : Int32) (x8 : Int32) (x9 : Int32) (x10 : Int32) (x11 : Int32) (x12 : Int32) (x13 : Int32) (x14 : Int32) (M : Mm), rX7_bits_b151 q92 x1 x2 x3 x5 x6 x7 x8 x9 x10 x11 x12 x13 x14 M = some M' → Fr M M' := by
    intro x1 x2 x3 x5 x6 x7 x8 x9 x10 x11 x12 x13 x14 M h
    unfold rX7_bits_b151 at h
    have F : Fr M M := Fr.rf
    rcases ob_ite h with ⟨c40, h⟩ | ⟨c40, h⟩
    ·
      rcases ob_ite h with ⟨c42, h⟩ | ⟨c42, h⟩
      ·
        exact F.tr (fX7_bits_b185 fq92 _ _ _ _ _ _ _ _ _ _ _ _ h)
      ·
        obtain ⟨g43, h⟩ := ob_gd h
        rcases ob_ite h with ⟨c44, h⟩ | ⟨c44, h⟩
        ·
          exact F.tr (fX7_bits_b181 fq92 _ _ _ _ _ _ _ _ _ _ _ _ h)
        ·
          exact F.tr (fX7_bits_b185 fq92 _ _ _ _ _ _ _ _ _ _ _ _ h)
    ·
      exact F.tr (fX7_bits_b181 fq92 _ _ _ _ _ _ _ _ _ _ _ _ h)
theorem fX7_bits_b92 {M' : Mm} {q33 : Int32 → Int32 → Int32 → Int32 → Int32 → Int32 → Int32 → Int32 → Int32 → Int32 → Mm → Option Mm} (fq33 : ∀ (x1 : Int32) (x2 : Int32) (x3 : Int32) (x5 : Int32) (x6 : Int32) (x7 : Int32) (x8 : Int32) (x9 : Int32) (x10 : Int32) (x11 : Int32) (M : Mm), q33 x1 x2 x3 x5 x6 x7 x8 x9 x10 x11 M = some M' → Fr M M') : ∀ (n : Nat), ∀ (x1 : Int32) (x2 : Int32) (x3 : Int32) (x5 : Int32) (x6 : Int32) (x7 : Int32) (x8 : Int32) (x9 : Int32) (x10 : Int32) (x11 : Int32) (x12 : Int32) (x13 : Int32) (M : Mm), rX7_bits_b92 q33 n x1 x2 x3 x5 x6 x7 x8 x9 x10 x11 x12 x13 M = some M' → Fr M M' := by
  intro n
  induction n with
  | zero =>
    intro x1 x2 x3 x5 x6 x7 x8 x9 x10 x11 x12 x13 M h
    cases (show (none : Option Mm) = some M' from h)
  | succ n fq920 =>
    have fq92 : ∀ (x1 : Int32) (x2 : Int32) (x3 : Int32) (x5 : Int32) (x6 : Int32) (x7 : Int32) (x8 : Int32) (x9 : Int32) (x10 : Int32) (x11 : Int32) (x12 : Int32) (x13 : Int32) (M : Mm), (rX7_bits_b92 q33 n) x1 x2 x3 x5 x6 x7 x8 x9 x10 x11 x12 x13 M = some M' → Fr M M' := fq920
    intro x1 x2 x3 x5 x6 x7 x8 x9 x10 x11 x12 x13 M h
    have h : rX7_bits_b92_s q33 (rX7_bits_b92 q33 n) x1 x2 x3 x5 x6 x7 x8 x9 x10 x11 x12 x13 M = some M' := h
    unfold rX7_bits_b92_s at h
    have F : Fr M M := Fr.rf
    rcases ob_ite h with ⟨c31, h⟩ | ⟨c31, h⟩
    ·
      exact F.tr (fX7_bits_b194 fq33 _ _ _ _ _ _ _ _ _ _ _ _ h)
    ·
      rcases ob_ite h with ⟨c36, h⟩ | ⟨c36, h⟩
      ·
        obtain ⟨g37, h⟩ := ob_gd h
        obtain ⟨y38, ey38, h⟩ := ob_lx h
        rcases ob_ite h with ⟨c39, h⟩ | ⟨c39, h⟩
        ·
          obtain ⟨g45, h⟩ := ob_gd h
          rcases ob_ite h with ⟨c46, h⟩ | ⟨c46, h⟩
          ·
            obtain ⟨g47, h⟩ := ob_gd h
            obtain ⟨M49, e48, h⟩ := ob_bind h
            have F := F.tr (fX7_comes e48)
            exact F.tr (fX7_bits_b151 fq92 _ _ _ _ _ _ _ _ _ _ _ _ _ _ h)
          ·
            exact F.tr (fX7_bits_b151 fq92 _ _ _ _ _ _ _ _ _ _ _ _ _ _ h)
        ·
          exact F.tr (fX7_bits_b151 fq92 _ _ _ _ _ _ _ _ _ _ _ _ _ _ h)
      ·
        exact F.tr (fX7_bits_b194 fq33 _ _ _ _ _ _ _ _ _ _ _ _ h)
theorem fX7_bits_b33 {M' : Mm} {q10 : Int32 → Int32 → Int32 → Int32 → Int32 → Int32 → Mm → Option Mm} (fq10 : ∀ (x1 : Int32) (x2 : Int32) (x3 : Int32) (x5 : Int32) (x6 : Int32) (x7 : Int32) (M : Mm), q10 x1 x2 x3 x5 x6 x7 M = some M' → Fr M M') : ∀ (n : Nat), ∀ (x1 : Int32) (x2 : Int32) (x3 : Int32) (x5 : Int32) (x6 : Int32) (x7 : Int32) (x8 : Int32) (x9 : Int32) (x10 : Int32) (x11 : Int32) (M : Mm), rX7_bits_b33 q10 n x1 x2 x3 x5 x6 x7 x8 x9 x10 x11 M = some M' → Fr M M' := by
  intro n
  induction n with
  | zero =>
    intro x1 x2 x3 x5 x6 x7 x8 x9 x10 x11 M h
    cases (show (none : Option Mm) = some M' from h)
  | succ n fq330 =>
    have fq33 : ∀ (x1 : Int32) (x2 : Int32) (x3 : Int32) (x5 : Int32) (x6 : Int32) (x7 : Int32) (x8 : Int32) (x9 : Int32) (x10 : Int32) (x11 : Int32) (M : Mm), (rX7_bits_b33 q10 n) x1 x2 x3 x5 x6 x7 x8 x9 x10 x11 M = some M' → Fr M M' := fq330
    intro x1 x2 x3 x5 x6 x7 x8 x9 x10 x11 M h
    have h : rX7_bits_b33_s q10 (rX7_bits_b33 q10 n) x1 x2 x3 x5 x6 x7 x8 x9 x10 x11 M = some M' := h
    unfold rX7_bits_b33_s at h
    have F : Fr M M := Fr.rf
    rcases ob_ite h with ⟨c18, h⟩ | ⟨c18, h⟩
    ·
      obtain ⟨r23, M22, e21, h⟩ := ob_bd2 h
      have F := F.tr (fX7_has e21)
      rcases ob_ite h with ⟨c24, h⟩ | ⟨c24, h⟩
      ·
        exact F.retv h
      ·
        obtain ⟨g26, h⟩ := ob_gd h
        obtain ⟨y28, ey28, h⟩ := ob_lx h
        obtain ⟨y29, ey29, h⟩ := ob_lx h
        obtain ⟨y30, ey30, h⟩ := ob_lx h
        exact F.tr (fX7_bits_b92 fq33 FU _ _ _ _ _ _ _ _ _ _ _ _ _ h)
    ·
      obtain ⟨y19, ey19, h⟩ := ob_lx h
      exact F.tr (fq10 _ _ _ _ _ _ _ h)
theorem fX7_bits_b10 {M' : Mm} : ∀ (n : Nat), ∀ (x1 : Int32) (x2 : Int32) (x3 : Int32) (x5 : Int32) (x6 : Int32) (x7 : Int32) (M : Mm), rX7_bits_b10 n x1 x2 x3 x5 x6 x7 M = some M' → Fr M M' := by
  intro n
  induction n with
  | zero =>
    intro x1 x2 x3 x5 x6 x7 M h
    cases (show (none : Option Mm) = some M' from h)
  | succ n fq100 =>
    have fq10 : ∀ (x1 : Int32) (x2 : Int32) (x3 : Int32) (x5 : Int32) (x6 : Int32) (x7 : Int32) (M : Mm), (rX7_bits_b10 n) x1 x2 x3 x5 x6 x7 M = some M' → Fr M M' := fq100
    intro x1 x2 x3 x5 x6 x7 M h
    have h : rX7_bits_b10_s (rX7_bits_b10 n) x1 x2 x3 x5 x6 x7 M = some M' := h
    unfold rX7_bits_b10_s at h
    have F : Fr M M := Fr.rf
    rcases ob_ite h with ⟨c2, h⟩ | ⟨c2, h⟩
    ·
      obtain ⟨y4, ey4, h⟩ := ob_lx h
      exact F.tr (fX7_bits_b232 FU _ _ _ _ h)
    ·
      obtain ⟨y17, ey17, h⟩ := ob_lx h
      exact F.tr (fX7_bits_b33 fq10 FU _ _ _ _ _ _ _ _ _ _ _ h)
theorem fX7_bits {a1 : Int32} {a2 : Int32} {a3 : Int32} {a4 : Int32} {a5 : Int32} {M M' : Mm} (h : rX7_bits a1 a2 a3 a4 a5 M = some M') : Fr M M' := by
  unfold rX7_bits at h
  have F : Fr M M := Fr.rf
  obtain ⟨y1, ey1, h⟩ := ob_lx h
  exact F.tr (fX7_bits_b10 FU _ _ _ _ _ _ _ h)
theorem fX7_coded_b63 {M' : Mm} : ∀ (n : Nat), ∀ (x1 : Int32) (x2 : Int32) (x3 : Int32) (x4 : Int32) (x5 : Int32) (M : Mm), rX7_coded_b63 n x1 x2 x3 x4 x5 M = some M' → Fr M M' := by
  intro n
  induction n with
  | zero =>
    intro x1 x2 x3 x4 x5 M h
    cases (show (none : Option Mm) = some M' from h)
  | succ n fq630 =>
    have fq63 : ∀ (x1 : Int32) (x2 : Int32) (x3 : Int32) (x4 : Int32) (x5 : Int32) (M : Mm), (rX7_coded_b63 n) x1 x2 x3 x4 x5 M = some M' → Fr M M' := fq630
    intro x1 x2 x3 x4 x5 M h
    have h : rX7_coded_b63_s (rX7_coded_b63 n) x1 x2 x3 x4 x5 M = some M' := h
    unfold rX7_coded_b63_s at h
    have F : Fr M M := Fr.rf
    rcases ob_ite h with ⟨c16, h⟩ | ⟨c16, h⟩
    ·
      obtain ⟨r19, M18, e17, h⟩ := ob_bd2 h
      have F := F.tr (fX7_codesOf e17)
      rcases ob_ite h with ⟨c20, h⟩ | ⟨c20, h⟩
      ·
        obtain ⟨M35, e34, h⟩ := ob_bind h
        have F := F.tr (fX7_fails e34)
        exact F.retv h
      ·
        obtain ⟨r23, M22, e21, h⟩ := ob_bd2 h
        have F := F.tr (fX7_has e21)
        rcases ob_ite h with ⟨c24, h⟩ | ⟨c24, h⟩
        ·
          exact F.retv h
        ·
          obtain ⟨g25, h⟩ := ob_gd h
          obtain ⟨g26, h⟩ := ob_gd h
          obtain ⟨r29, M28, e27, h⟩ := ob_bd2 h
          have F := F.tr (fX7_pays e27)
          rcases ob_ite h with ⟨c30, h⟩ | ⟨c30, h⟩
          ·
            exact F.retv h
          ·
            obtain ⟨g31, h⟩ := ob_gd h
            obtain ⟨M33, e32, h⟩ := ob_bind h
            have F := F.tr (fX7_bits e32)
            exact F.retv h
    ·
      obtain ⟨r38, M37, e36, h⟩ := ob_bd2 h
      have F := F.tr (fX7_has e36)
      rcases ob_ite h with ⟨c39, h⟩ | ⟨c39, h⟩
      ·
        exact F.retv h
      ·
        obtain ⟨g40, h⟩ := ob_gd h
        rcases ob_ite h with ⟨c41, h⟩ | ⟨c41, h⟩
        ·
          obtain ⟨y42, ey42, h⟩ := ob_lx h
          exact F.tr (fq63 _ _ _ _ _ _ h)
        ·
          obtain ⟨M44, e43, h⟩ := ob_bind h
          have F := F.tr (fX7_fails e43)
          exact F.retv h
theorem fX7_coded {a1 : Int32} {a2 : Int32} {M M' : Mm} (h : rX7_coded a1 a2 M = some M') : Fr M M' := by
  unfold rX7_coded at h
  have F : Fr M M := Fr.rf
  obtain ⟨r3, M2, e1, h⟩ := ob_bd2 h
  have F := F.tr (fX7_has e1)
  rcases ob_ite h with ⟨c4, h⟩ | ⟨c4, h⟩
  ·
    exact F.retv h
  ·
    obtain ⟨g5, h⟩ := ob_gd h
    obtain ⟨y6, ey6, h⟩ := ob_lx h
    obtain ⟨r9, M8, e7, h⟩ := ob_bd2 h
    have F := F.tr (fX7_in e7)
    rcases ob_ite h with ⟨c10, h⟩ | ⟨c10, h⟩
    ·
      obtain ⟨M46, e45, h⟩ := ob_bind h
      have F := F.tr (fX7_fails e45)
      exact F.retv h
    ·
      obtain ⟨r13, M12, e11, h⟩ := ob_bd2 h
      have F := F.tr (fX7_has e11)
      rcases ob_ite h with ⟨c14, h⟩ | ⟨c14, h⟩
      ·
        exact F.retv h
      ·
        obtain ⟨y15, ey15, h⟩ := ob_lx h
        exact F.tr (fX7_coded_b63 FU _ _ _ _ _ _ h)
theorem fX7_item_b240 {M' : Mm} : ∀ (x1 : Int32) (x2 : Int32) (M : Mm), rX7_item_b240 x1 x2 M = some M' → Fr M M' := by
    intro x1 x2 M h
    unfold rX7_item_b240 at h
    have F : Fr M M := Fr.rf
    obtain ⟨g39, h⟩ := ob_gd h
    obtain ⟨M41, e40, h⟩ := ob_bind h
    have F := F.tr (fX7_ends e40)
    exact F.retv h
theorem fX7_item_b198 {M' : Mm} : ∀ (n : Nat), ∀ (x1 : Int32) (x2 : Int32) (x3 : Int32) (M : Mm), rX7_item_b198 n x1 x2 x3 M = some M' → Fr M M' := by
  intro n
  induction n with
  | zero =>
    intro x1 x2 x3 M h
    cases (show (none : Option Mm) = some M' from h)
  | succ n fq1980 =>
    have fq198 : ∀ (x1 : Int32) (x2 : Int32) (x3 : Int32) (M : Mm), (rX7_item_b198 n) x1 x2 x3 M = some M' → Fr M M' := fq1980
    intro x1 x2 x3 M h
    have h : rX7_item_b198_s (rX7_item_b198 n) x1 x2 x3 M = some M' := h
    unfold rX7_item_b198_s at h
    have F : Fr M M := Fr.rf
    obtain ⟨g37, h⟩ := ob_gd h
    rcases ob_ite h with ⟨c38, h⟩ | ⟨c38, h⟩
    ·
      exact F.tr (fX7_item_b240 _ _ _ h)
    ·
      obtain ⟨g42, h⟩ := ob_gd h
      rcases ob_ite h with ⟨c43, h⟩ | ⟨c43, h⟩
      ·
        obtain ⟨g44, h⟩ := ob_gd h
        obtain ⟨M46, e45, h⟩ := ob_bind h
        have F := F.tr (fX7_comes e45)
        obtain ⟨y47, ey47, h⟩ := ob_lx h
        exact F.tr (fq198 _ _ _ _ h)
      ·
        exact F.tr (fX7_item_b240 _ _ _ h)
theorem fX7_item_b190 {M' : Mm} : ∀ (x1 : Int32) (x2 : Int32) (s0 : Int32) (s1 : Int32) (s2 : Int32) (M : Mm), rX7_item_b190 x1 x2 s0 s1 s2 M = some M' → Fr M M' := by
    intro x1 x2 s0 s1 s2 M h
    unfold rX7_item_b190 at h
    have F : Fr M M := Fr.rf
    obtain ⟨r35, M34, e33, h⟩ := ob_bd2 h
    have F := F.tr (fX7_pays e33)
    rcases ob_ite h with ⟨c36, h⟩ | ⟨c36, h⟩
    ·
      exact F.retv h
    ·
      exact F.tr (fX7_item_b198 FU _ _ _ _ h)
theorem fX7_item_b166 {M' : Mm} : ∀ (x1 : Int32) (x2 : Int32) (s0 : Int32) (s1 : Int32) (s2 : Int32) (s3 : Int32) (M : Mm), rX7_item_b166 x1 x2 s0 s1 s2 s3 M = some M' → Fr M M' := by
    intro x1 x2 s0 s1 s2 s3 M h
    unfold rX7_item_b166 at h
    have F : Fr M M := Fr.rf
    obtain ⟨g31, h⟩ := ob_gd h
    rcases ob_ite h with ⟨c32, h⟩ | ⟨c32, h⟩
    ·
      obtain ⟨g48, h⟩ := ob_gd h
      exact F.tr (fX7_item_b190 _ _ _ _ _ _ h)
    ·
      exact F.tr (fX7_item_b190 _ _ _ _ _ _ h)
theorem fX7_item_b297 {M' : Mm} : ∀ (n : Nat), ∀ (x1 : Int32) (x2 : Int32) (x3 : Int32) (M : Mm), rX7_item_b297 n x1 x2 x3 M = some M' → Fr M M' := by
  intro n
  induction n with
  | zero =>
    intro x1 x2 x3 M h
    cases (show (none : Option Mm) = some M' from h)
  | succ n fq2970 =>
    have fq297 : ∀ (x1 : Int32) (x2 : Int32) (x3 : Int32) (M : Mm), (rX7_item_b297 n) x1 x2 x3 M = some M' → Fr M M' := fq2970
    intro x1 x2 x3 M h
    have h : rX7_item_b297_s (rX7_item_b297 n) x1 x2 x3 M = some M' := h
    unfold rX7_item_b297_s at h
    have F : Fr M M := Fr.rf
    obtain ⟨g60, h⟩ := ob_gd h
    rcases ob_ite h with ⟨c61, h⟩ | ⟨c61, h⟩
    ·
      obtain ⟨M63, e62, h⟩ := ob_bind h
      have F := F.tr (fX7_ends e62)
      exact F.retv h
    ·
      obtain ⟨g64, h⟩ := ob_gd h
      obtain ⟨M66, e65, h⟩ := ob_bind h
      have F := F.tr (fX7_comes e65)
      obtain ⟨y67, ey67, h⟩ := ob_lx h
      exact F.tr (fq297 _ _ _ _ h)
theorem fX7_item {M M' : Mm} (h : rX7_item M = some M') : Fr M M' := by
  unfold rX7_item at h
  have F : Fr M M := Fr.rf
  obtain ⟨y1, ey1, h⟩ := ob_lx h
  obtain ⟨g2, h⟩ := ob_gd h
  obtain ⟨y3, ey3, h⟩ := ob_lx h
  obtain ⟨r6, M5, e4, h⟩ := ob_bd2 h
  have F := F.tr (fX7_has e4)
  rcases ob_ite h with ⟨c7, h⟩ | ⟨c7, h⟩
  ·
    exact F.retv h
  ·
    obtain ⟨g8, h⟩ := ob_gd h
    obtain ⟨M9, eM9, h⟩ := ob_lx h
    have F := F.s1 eM9 (by decide)
    obtain ⟨g10, h⟩ := ob_gd h
    obtain ⟨M11, eM11, h⟩ := ob_lx h
    have F := F.s1 eM11 (by decide)
    obtain ⟨g12, h⟩ := ob_gd h
    obtain ⟨M13, eM13, h⟩ := ob_lx h
    have F := F.s1 eM13 (by decide)
    obtain ⟨g14, h⟩ := ob_gd h
    rcases ob_ite h with ⟨c15, h⟩ | ⟨c15, h⟩
    ·
      obtain ⟨M17, e16, h⟩ := ob_bind h
      have F := F.tr (fX7_closes e16)
      exact F.retv h
    ·
      rcases ob_ite h with ⟨c18, h⟩ | ⟨c18, h⟩
      ·
        obtain ⟨r21, M20, e19, h⟩ := ob_bd2 h
        have F := F.tr (fX7_has e19)
        rcases ob_ite h with ⟨c22, h⟩ | ⟨c22, h⟩
        ·
          exact F.retv h
        ·
          obtain ⟨g23, h⟩ := ob_gd h
          obtain ⟨r26, M25, e24, h⟩ := ob_bd2 h
          have F := F.tr (fX7_has e24)
          rcases ob_ite h with ⟨c27, h⟩ | ⟨c27, h⟩
          ·
            exact F.retv h
          ·
            obtain ⟨g28, h⟩ := ob_gd h
            obtain ⟨g29, h⟩ := ob_gd h
            rcases ob_ite h with ⟨c30, h⟩ | ⟨c30, h⟩
            ·
              exact F.tr (fX7_item_b166 _ _ _ _ _ _ _ h)
            ·
              exact F.tr (fX7_item_b166 _ _ _ _ _ _ _ h)
      ·
        rcases ob_ite h with ⟨c49, h⟩ | ⟨c49, h⟩
        ·
          obtain ⟨r52, M51, e50, h⟩ := ob_bd2 h
          have F := F.tr (fX7_has e50)
          rcases ob_ite h with ⟨c53, h⟩ | ⟨c53, h⟩
          ·
            exact F.retv h
          ·
            obtain ⟨g54, h⟩ := ob_gd h
            obtain ⟨g55, h⟩ := ob_gd h
            obtain ⟨r58, M57, e56, h⟩ := ob_bd2 h
            have F := F.tr (fX7_pays e56)
            rcases ob_ite h with ⟨c59, h⟩ | ⟨c59, h⟩
            ·
              exact F.retv h
            ·
              exact F.tr (fX7_item_b297 FU _ _ _ _ h)
        ·
          rcases ob_ite h with ⟨c68, h⟩ | ⟨c68, h⟩
          ·
            obtain ⟨M70, e69, h⟩ := ob_bind h
            have F := F.tr (fX7_copy e69)
            exact F.retv h
          ·
            rcases ob_ite h with ⟨c71, h⟩ | ⟨c71, h⟩
            ·
              obtain ⟨M73, e72, h⟩ := ob_bind h
              have F := F.tr (fX7_nest e72)
              exact F.retv h
            ·
              rcases ob_ite h with ⟨c74, h⟩ | ⟨c74, h⟩
              ·
                obtain ⟨r77, M76, e75, h⟩ := ob_bd2 h
                have F := F.tr (fX7_has e75)
                rcases ob_ite h with ⟨c78, h⟩ | ⟨c78, h⟩
                ·
                  exact F.retv h
                ·
                  obtain ⟨g79, h⟩ := ob_gd h
                  obtain ⟨r82, M81, e80, h⟩ := ob_bd2 h
                  have F := F.tr (fX7_has e80)
                  rcases ob_ite h with ⟨c83, h⟩ | ⟨c83, h⟩
                  ·
                    exact F.retv h
                  ·
                    obtain ⟨g84, h⟩ := ob_gd h
                    obtain ⟨g85, h⟩ := ob_gd h
                    rcases ob_ite h with ⟨c86, h⟩ | ⟨c86, h⟩
                    ·
                      exact F.tr (fX7_item_b166 _ _ _ _ _ _ _ h)
                    ·
                      exact F.tr (fX7_item_b166 _ _ _ _ _ _ _ h)
              ·
                rcases ob_ite h with ⟨c87, h⟩ | ⟨c87, h⟩
                ·
                  obtain ⟨M89, e88, h⟩ := ob_bind h
                  have F := F.tr (fX7_again e88)
                  exact F.retv h
                ·
                  rcases ob_ite h with ⟨c90, h⟩ | ⟨c90, h⟩
                  ·
                    obtain ⟨M92, e91, h⟩ := ob_bind h
                    have F := F.tr (fX7_coded e91)
                    exact F.retv h
                  ·
                    obtain ⟨M94, e93, h⟩ := ob_bind h
                    have F := F.tr (fX7_fails e93)
                    exact F.retv h
theorem fX7_reads_b76 {M' : Mm} : ∀ (n : Nat), ∀ (M : Mm), rX7_reads_b76 n  M = some M' → Fr M M' := by
  intro n
  induction n with
  | zero =>
    intro M h
    cases (show (none : Option Mm) = some M' from h)
  | succ n fq760 =>
    have fq76 : ∀ (M : Mm), (rX7_reads_b76 n)  M = some M' → Fr M M' := fq760
    intro M h
    have h : rX7_reads_b76_s (rX7_reads_b76 n)  M = some M' := h
    unfold rX7_reads_b76_s at h
    have F : Fr M M := Fr.rf
    rcases ob_ite h with ⟨c16, h⟩ | ⟨c16, h⟩
    ·
      rcases ob_ite h with ⟨c17, h⟩ | ⟨c17, h⟩
      ·
        exact F.retv h
      ·
        obtain ⟨M19, e18, h⟩ := ob_bind h
        have F := F.tr (fX7_item e18)
        exact F.tr (fq76  _ h)
    ·
      exact F.retv h
theorem fX7_reads {a1 : Int32} {a2 : Int32} {a3 : Int32} {M M' : Mm} (h : rX7_reads a1 a2 a3 M = some M') : Fr M M' := by
  unfold rX7_reads at h
  have F : Fr M M := Fr.rf
  obtain ⟨M1, eM1, h⟩ := ob_lx h
  have F := F.s1 eM1 (by decide)
  obtain ⟨M2, eM2, h⟩ := ob_lx h
  have F := F.s1 eM2 (by decide)
  obtain ⟨M3, eM3, h⟩ := ob_lx h
  have F := F.s1 eM3 (by decide)
  obtain ⟨M4, eM4, h⟩ := ob_lx h
  have F := F.s1 eM4 (by decide)
  obtain ⟨M5, eM5, h⟩ := ob_lx h
  have F := F.s1 eM5 (by decide)
  obtain ⟨M6, eM6, h⟩ := ob_lx h
  have F := F.s1 eM6 (by decide)
  obtain ⟨M7, eM7, h⟩ := ob_lx h
  have F := F.s1 eM7 (by decide)
  obtain ⟨M8, eM8, h⟩ := ob_lx h
  have F := F.s1 eM8 (by decide)
  obtain ⟨M9, eM9, h⟩ := ob_lx h
  have F := F.s1 eM9 (by decide)
  obtain ⟨M10, eM10, h⟩ := ob_lx h
  have F := F.s1 eM10 (by decide)
  obtain ⟨M11, eM11, h⟩ := ob_lx h
  have F := F.s1 eM11 (by decide)
  obtain ⟨g12, h⟩ := ob_gd h
  obtain ⟨M13, eM13, h⟩ := ob_lx h
  have F := F.s1 eM13 (by decide)
  obtain ⟨M15, e14, h⟩ := ob_bind h
  have F := F.tr (fX7_begins e14)
  exact F.tr (fX7_reads_b76 FU  _ h)
theorem fX7_isGood {a0 : Int32} {a1 : Int32} {a2 : Int32} {M M' : Mm} {r : Int32} (h : rX7_isGood a0 a1 a2 M = some (r, M')) : Fr M M' := by
  unfold rX7_isGood at h
  have F : Fr M M := Fr.rf
  obtain ⟨r3, M2, e1, h⟩ := ob_bd2 h
  have F := F.tr (fX7_in e1)
  rcases ob_ite h with ⟨c4, h⟩ | ⟨c4, h⟩
  ·
    exact F.retz h
  ·
    obtain ⟨r7, M6, e5, h⟩ := ob_bd2 h
    have F := F.tr (fX7_in e5)
    rcases ob_ite h with ⟨c8, h⟩ | ⟨c8, h⟩
    ·
      exact F.retz h
    ·
      obtain ⟨r11, M10, e9, h⟩ := ob_bd2 h
      have F := F.tr (fX7_in e9)
      rcases ob_ite h with ⟨c12, h⟩ | ⟨c12, h⟩
      ·
        exact F.retz h
      ·
        exact F.retz h
theorem fX7_open {a1 : Int32} {a2 : Int32} {a3 : Int32} {M M' : Mm} {r : Int32} (h : rX7_open a1 a2 a3 M = some (r, M')) : Fr M M' := by
  unfold rX7_open at h
  have F : Fr M M := Fr.rf
  obtain ⟨r3, M2, e1, h⟩ := ob_bd2 h
  have F := F.tr (fX7_isGood e1)
  rcases ob_ite h with ⟨c4, h⟩ | ⟨c4, h⟩
  ·
    exact F.reti h
  ·
    obtain ⟨M6, e5, h⟩ := ob_bind h
    have F := F.tr (fX7_reads e5)
    rcases ob_ite h with ⟨c7, h⟩ | ⟨c7, h⟩
    ·
      exact F.reti h
    ·
      exact F.reti h
theorem fX7_place {M M' : Mm} {r : Int32} (h : rX7_place M = some (r, M')) : Fr M M' := by
  unfold rX7_place at h
  have F : Fr M M := Fr.rf
  exact F.reti h
theorem fX7_out {a1 : Int32} {M M' : Mm} {r : Int32} (h : rX7_out a1 M = some (r, M')) : Fr M M' := by
  unfold rX7_out at h
  have F : Fr M M := Fr.rf
  obtain ⟨r3, M2, e1, h⟩ := ob_bd2 h
  have F := F.tr (fX7_in e1)
  rcases ob_ite h with ⟨c4, h⟩ | ⟨c4, h⟩
  ·
    exact F.reti h
  ·
    obtain ⟨g5, h⟩ := ob_gd h
    exact F.reti h
theorem fX7_item_ {a1 : Int32} {a2 : Int32} {M M' : Mm} {r : Int32} (h : rX7_item_ a1 a2 M = some (r, M')) : Fr M M' := by
  unfold rX7_item_ at h
  have F : Fr M M := Fr.rf
  rcases ob_ite h with ⟨c1, h⟩ | ⟨c1, h⟩
  ·
    obtain ⟨g15, h⟩ := ob_gd h
    exact F.reti h
  ·
    obtain ⟨g2, h⟩ := ob_gd h
    obtain ⟨r5, M4, e3, h⟩ := ob_bd2 h
    have F := F.tr (fX7_in e3)
    rcases ob_ite h with ⟨c6, h⟩ | ⟨c6, h⟩
    ·
      exact F.reti h
    ·
      rcases ob_ite h with ⟨c7, h⟩ | ⟨c7, h⟩
      ·
        obtain ⟨g8, h⟩ := ob_gd h
        exact F.reti h
      ·
        rcases ob_ite h with ⟨c9, h⟩ | ⟨c9, h⟩
        ·
          obtain ⟨g10, h⟩ := ob_gd h
          exact F.reti h
        ·
          rcases ob_ite h with ⟨c11, h⟩ | ⟨c11, h⟩
          ·
            obtain ⟨g12, h⟩ := ob_gd h
            exact F.reti h
          ·
            rcases ob_ite h with ⟨c13, h⟩ | ⟨c13, h⟩
            ·
              obtain ⟨g14, h⟩ := ob_gd h
              exact F.reti h
            ·
              exact F.reti h
theorem fX7_shrink_b279 {M' : Mm} {r : Int32} {q92 : Int32 → Int32 → Int32 → Int32 → Int32 → Int32 → Int32 → Mm → Option (Int32 × Mm)} (fq92 : ∀ (x1 : Int32) (x2 : Int32) (x3 : Int32) (x4 : Int32) (x5 : Int32) (x6 : Int32) (x7 : Int32) (M : Mm), q92 x1 x2 x3 x4 x5 x6 x7 M = some (r, M') → Fr M M') : ∀ (x1 : Int32) (x2 : Int32) (x3 : Int32) (x4 : Int32) (x5 : Int32) (x6 : Int32) (x7 : Int32) (M : Mm), rX7_shrink_b279 q92 x1 x2 x3 x4 x5 x6 x7 M = some (r, M') → Fr M M' := by
    intro x1 x2 x3 x4 x5 x6 x7 M h
    unfold rX7_shrink_b279 at h
    have F : Fr M M := Fr.rf
    obtain ⟨y32, ey32, h⟩ := ob_lx h
    exact F.tr (fq92 _ _ _ _ _ _ _ _ h)
theorem fX7_shrink_b250 {M' : Mm} {r : Int32} {q92 : Int32 → Int32 → Int32 → Int32 → Int32 → Int32 → Int32 → Mm → Option (Int32 × Mm)} (fq92 : ∀ (x1 : Int32) (x2 : Int32) (x3 : Int32) (x4 : Int32) (x5 : Int32) (x6 : Int32) (x7 : Int32) (M : Mm), q92 x1 x2 x3 x4 x5 x6 x7 M = some (r, M') → Fr M M') : ∀ (n : Nat), ∀ (x1 : Int32) (x2 : Int32) (x3 : Int32) (x4 : Int32) (x5 : Int32) (x6 : Int32) (x7 : Int32) (x11 : Int32) (M : Mm), rX7_shrink_b250 q92 n x1 x2 x3 x4 x5 x6 x7 x11 M = some (r, M') → Fr M M' := by
  intro n
  induction n with
  | zero =>
    intro x1 x2 x3 x4 x5 x6 x7 x11 M h
    cases (show (none : Option (Int32 × Mm)) = some (r, M') from h)
  | succ n fq2500 =>
    have fq250 : ∀ (x1 : Int32) (x2 : Int32) (x3 : Int32) (x4 : Int32) (x5 : Int32) (x6 : Int32) (x7 : Int32) (x11 : Int32) (M : Mm), (rX7_shrink_b250 q92 n) x1 x2 x3 x4 x5 x6 x7 x11 M = some (r, M') → Fr M M' := fq2500
    intro x1 x2 x3 x4 x5 x6 x7 x11 M h
    have h : rX7_shrink_b250_s q92 (rX7_shrink_b250 q92 n) x1 x2 x3 x4 x5 x6 x7 x11 M = some (r, M') := h
    unfold rX7_shrink_b250_s at h
    have F : Fr M M := Fr.rf
    rcases ob_ite h with ⟨c31, h⟩ | ⟨c31, h⟩
    ·
      exact F.tr (fX7_shrink_b279 fq92 _ _ _ _ _ _ _ _ h)
    ·
      obtain ⟨g33, h⟩ := ob_gd h
      obtain ⟨g34, h⟩ := ob_gd h
      obtain ⟨M35, eM35, h⟩ := ob_lx h
      have F := F.s1 eM35 (by decide)
      obtain ⟨y36, ey36, h⟩ := ob_lx h
      exact F.tr (fq250 _ _ _ _ _ _ _ _ _ h)
theorem fX7_shrink_b183 {M' : Mm} {r : Int32} {q92 : Int32 → Int32 → Int32 → Int32 → Int32 → Int32 → Int32 → Mm → Option (Int32 × Mm)} (fq92 : ∀ (x1 : Int32) (x2 : Int32) (x3 : Int32) (x4 : Int32) (x5 : Int32) (x6 : Int32) (x7 : Int32) (M : Mm), q92 x1 x2 x3 x4 x5 x6 x7 M = some (r, M') → Fr M M') : ∀ (n : Nat), ∀ (x1 : Int32) (x2 : Int32) (x3 : Int32) (x4 : Int32) (x5 : Int32) (x6 : Int32) (x7 : Int32) (x9 : Int32) (x10 : Int32) (x11 : Int32) (M : Mm), rX7_shrink_b183 q92 n x1 x2 x3 x4 x5 x6 x7 x9 x10 x11 M = some (r, M') → Fr M M' := by
  intro n
  induction n with
  | zero =>
    intro x1 x2 x3 x4 x5 x6 x7 x9 x10 x11 M h
    cases (show (none : Option (Int32 × Mm)) = some (r, M') from h)
  | succ n fq1830 =>
    have fq183 : ∀ (x1 : Int32) (x2 : Int32) (x3 : Int32) (x4 : Int32) (x5 : Int32) (x6 : Int32) (x7 : Int32) (x9 : Int32) (x10 : Int32) (x11 : Int32) (M : Mm), (rX7_shrink_b183 q92 n) x1 x2 x3 x4 x5 x6 x7 x9 x10 x11 M = some (r, M') → Fr M M' := fq1830
    intro x1 x2 x3 x4 x5 x6 x7 x9 x10 x11 M h
    have h : rX7_shrink_b183_s q92 (rX7_shrink_b183 q92 n) x1 x2 x3 x4 x5 x6 x7 x9 x10 x11 M = some (r, M') := h
    unfold rX7_shrink_b183_s at h
    have F : Fr M M := Fr.rf
    rcases ob_ite h with ⟨c26, h⟩ | ⟨c26, h⟩
    ·
      obtain ⟨M28, e27, h⟩ := ob_bind h
      have F := F.tr (fX7_reads e27)
      rcases ob_ite h with ⟨c29, h⟩ | ⟨c29, h⟩
      ·
        obtain ⟨y37, ey37, h⟩ := ob_lx h
        exact F.tr (fX7_shrink_b279 fq92 _ _ _ _ _ _ _ _ h)
      ·
        obtain ⟨M30, eM30, h⟩ := ob_lx h
        have F := F.s1 eM30 (by decide)
        exact F.tr (fX7_shrink_b250 fq92 FU _ _ _ _ _ _ _ _ _ h)
    ·
      obtain ⟨g38, h⟩ := ob_gd h
      obtain ⟨g39, h⟩ := ob_gd h
      obtain ⟨M40, eM40, h⟩ := ob_lx h
      have F := F.s1 eM40 (by decide)
      obtain ⟨y41, ey41, h⟩ := ob_lx h
      exact F.tr (fq183 _ _ _ _ _ _ _ _ _ _ _ h)
theorem fX7_shrink_b139 {M' : Mm} {r : Int32} {q92 : Int32 → Int32 → Int32 → Int32 → Int32 → Int32 → Int32 → Mm → Option (Int32 × Mm)} (fq92 : ∀ (x1 : Int32) (x2 : Int32) (x3 : Int32) (x4 : Int32) (x5 : Int32) (x6 : Int32) (x7 : Int32) (M : Mm), q92 x1 x2 x3 x4 x5 x6 x7 M = some (r, M') → Fr M M') : ∀ (n : Nat), ∀ (x1 : Int32) (x2 : Int32) (x3 : Int32) (x4 : Int32) (x5 : Int32) (x6 : Int32) (x7 : Int32) (x8 : Int32) (x9 : Int32) (x10 : Int32) (x11 : Int32) (M : Mm), rX7_shrink_b139 q92 n x1 x2 x3 x4 x5 x6 x7 x8 x9 x10 x11 M = some (r, M') → Fr M M' := by
  intro n
  induction n with
  | zero =>
    intro x1 x2 x3 x4 x5 x6 x7 x8 x9 x10 x11 M h
    cases (show (none : Option (Int32 × Mm)) = some (r, M') from h)
  | succ n fq1390 =>
    have fq139 : ∀ (x1 : Int32) (x2 : Int32) (x3 : Int32) (x4 : Int32) (x5 : Int32) (x6 : Int32) (x7 : Int32) (x8 : Int32) (x9 : Int32) (x10 : Int32) (x11 : Int32) (M : Mm), (rX7_shrink_b139 q92 n) x1 x2 x3 x4 x5 x6 x7 x8 x9 x10 x11 M = some (r, M') → Fr M M' := fq1390
    intro x1 x2 x3 x4 x5 x6 x7 x8 x9 x10 x11 M h
    have h : rX7_shrink_b139_s q92 (rX7_shrink_b139 q92 n) x1 x2 x3 x4 x5 x6 x7 x8 x9 x10 x11 M = some (r, M') := h
    unfold rX7_shrink_b139_s at h
    have F : Fr M M := Fr.rf
    rcases ob_ite h with ⟨c24, h⟩ | ⟨c24, h⟩
    ·
      obtain ⟨M25, eM25, h⟩ := ob_lx h
      have F := F.s1 eM25 (by decide)
      exact F.tr (fX7_shrink_b183 fq92 FU _ _ _ _ _ _ _ _ _ _ _ h)
    ·
      obtain ⟨g42, h⟩ := ob_gd h
      obtain ⟨g43, h⟩ := ob_gd h
      obtain ⟨M44, eM44, h⟩ := ob_lx h
      have F := F.s1 eM44 (by decide)
      obtain ⟨y45, ey45, h⟩ := ob_lx h
      exact F.tr (fq139 _ _ _ _ _ _ _ _ _ _ _ _ h)
theorem fX7_shrink_b92 {M' : Mm} {r : Int32} : ∀ (n : Nat), ∀ (x1 : Int32) (x2 : Int32) (x3 : Int32) (x4 : Int32) (x5 : Int32) (x6 : Int32) (x7 : Int32) (M : Mm), rX7_shrink_b92 n x1 x2 x3 x4 x5 x6 x7 M = some (r, M') → Fr M M' := by
  intro n
  induction n with
  | zero =>
    intro x1 x2 x3 x4 x5 x6 x7 M h
    cases (show (none : Option (Int32 × Mm)) = some (r, M') from h)
  | succ n fq920 =>
    have fq92 : ∀ (x1 : Int32) (x2 : Int32) (x3 : Int32) (x4 : Int32) (x5 : Int32) (x6 : Int32) (x7 : Int32) (M : Mm), (rX7_shrink_b92 n) x1 x2 x3 x4 x5 x6 x7 M = some (r, M') → Fr M M' := fq920
    intro x1 x2 x3 x4 x5 x6 x7 M h
    have h : rX7_shrink_b92_s (rX7_shrink_b92 n) x1 x2 x3 x4 x5 x6 x7 M = some (r, M') := h
    unfold rX7_shrink_b92_s at h
    have F : Fr M M := Fr.rf
    rcases ob_ite h with ⟨c15, h⟩ | ⟨c15, h⟩
    ·
      obtain ⟨M17, e16, h⟩ := ob_bind h
      have F := F.tr (fX7_reads e16)
      exact F.reti h
    ·
      obtain ⟨g18, h⟩ := ob_gd h
      obtain ⟨y19, ey19, h⟩ := ob_lx h
      obtain ⟨g20, h⟩ := ob_gd h
      obtain ⟨g21, h⟩ := ob_gd h
      obtain ⟨y22, ey22, h⟩ := ob_lx h
      obtain ⟨y23, ey23, h⟩ := ob_lx h
      exact F.tr (fX7_shrink_b139 fq92 FU _ _ _ _ _ _ _ _ _ _ _ _ h)
theorem fX7_shrink_b46 {M' : Mm} {r : Int32} : ∀ (n : Nat), ∀ (x1 : Int32) (x2 : Int32) (x3 : Int32) (x4 : Int32) (x5 : Int32) (x6 : Int32) (M : Mm), rX7_shrink_b46 n x1 x2 x3 x4 x5 x6 M = some (r, M') → Fr M M' := by
  intro n
  induction n with
  | zero =>
    intro x1 x2 x3 x4 x5 x6 M h
    cases (show (none : Option (Int32 × Mm)) = some (r, M') from h)
  | succ n fq460 =>
    have fq46 : ∀ (x1 : Int32) (x2 : Int32) (x3 : Int32) (x4 : Int32) (x5 : Int32) (x6 : Int32) (M : Mm), (rX7_shrink_b46 n) x1 x2 x3 x4 x5 x6 M = some (r, M') → Fr M M' := fq460
    intro x1 x2 x3 x4 x5 x6 M h
    have h : rX7_shrink_b46_s (rX7_shrink_b46 n) x1 x2 x3 x4 x5 x6 M = some (r, M') := h
    unfold rX7_shrink_b46_s at h
    have F : Fr M M := Fr.rf
    rcases ob_ite h with ⟨c11, h⟩ | ⟨c11, h⟩
    ·
      obtain ⟨g12, h⟩ := ob_gd h
      obtain ⟨g13, h⟩ := ob_gd h
      obtain ⟨M14, eM14, h⟩ := ob_lx h
      have F := F.s1 eM14 (by decide)
      exact F.tr (fX7_shrink_b92 FU _ _ _ _ _ _ _ _ h)
    ·
      obtain ⟨g46, h⟩ := ob_gd h
      obtain ⟨g47, h⟩ := ob_gd h
      obtain ⟨M48, eM48, h⟩ := ob_lx h
      have F := F.s1 eM48 (by decide)
      obtain ⟨y49, ey49, h⟩ := ob_lx h
      exact F.tr (fq46 _ _ _ _ _ _ _ h)
theorem fX7_shrink {a1 : Int32} {a2 : Int32} {a3 : Int32} {M M' : Mm} {r : Int32} (h : rX7_shrink a1 a2 a3 M = some (r, M')) : Fr M M' := by
  unfold rX7_shrink at h
  have F : Fr M M := Fr.rf
  obtain ⟨r3, M2, e1, h⟩ := ob_bd2 h
  have F := F.tr (fX7_isGood e1)
  rcases ob_ite h with ⟨c4, h⟩ | ⟨c4, h⟩
  ·
    exact F.reti h
  ·
    obtain ⟨M6, e5, h⟩ := ob_bind h
    have F := F.tr (fX7_reads e5)
    rcases ob_ite h with ⟨c7, h⟩ | ⟨c7, h⟩
    ·
      exact F.reti h
    ·
      obtain ⟨y8, ey8, h⟩ := ob_lx h
      obtain ⟨g9, h⟩ := ob_gd h
      obtain ⟨y10, ey10, h⟩ := ob_lx h
      exact F.tr (fX7_shrink_b46 FU _ _ _ _ _ _ _ h)
theorem fX7_count {a1 : Int32} {M M' : Mm} {r : Int32} (h : rX7_count a1 M = some (r, M')) : Fr M M' := by
  unfold rX7_count at h
  have F : Fr M M := Fr.rf
  rcases ob_ite h with ⟨c1, h⟩ | ⟨c1, h⟩
  ·
    exact F.reti h
  ·
    rcases ob_ite h with ⟨c2, h⟩ | ⟨c2, h⟩
    ·
      exact F.reti h
    ·
      rcases ob_ite h with ⟨c3, h⟩ | ⟨c3, h⟩
      ·
        exact F.reti h
      ·
        rcases ob_ite h with ⟨c4, h⟩ | ⟨c4, h⟩
        ·
          exact F.reti h
        ·
          rcases ob_ite h with ⟨c5, h⟩ | ⟨c5, h⟩
          ·
            exact F.reti h
          ·
            rcases ob_ite h with ⟨c6, h⟩ | ⟨c6, h⟩
            ·
              exact F.reti h
            ·
              rcases ob_ite h with ⟨c7, h⟩ | ⟨c7, h⟩
              ·
                exact F.reti h
              ·
                exact F.reti h
