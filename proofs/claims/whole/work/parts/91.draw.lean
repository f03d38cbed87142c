def kEnd (M : Mm) : Option Mm := Option.bind (rX2_appendEnd 0 M) fun M5 => some M5
theorem fuok {k : Nat} (h : k ≤ 300) : k < FU := by unfold FU; omega
section
variable {A B : Mm} {t : Nat → Nat} {n : Nat} {sd : Int64} {Mc Mr : Mm}
theorem g_drawn (e : Nat) (he : e ≤ 60) (hc : DC A t n sd Mc) (hr : DR B t n sd Mr) (hn : n + 1 * e ≤ 1200) : E2 A B n (n + 1 * e) (rX2_appendDrawn_b2 FU (nI e) 0 Mc) (rX7_some_b8 FU (nI e) 0 Mr) (some) (some) := by
  refine g_loop (fun f x M => rX2_appendDrawn_b2 f (nI e) x M) (fun f x M => rX7_some_b8 f (nI e) x M) (some) (some) 1 e (fun f M => ?_) (fun f M => ?_) (fun i f g t n sd Mc Mr hi hc hr hn => ?_) e 0 FU FU t n sd Mc Mr (Nat.zero_add _) (fuok (by omega)) (fuok (by omega)) hc hr hn
  · show rX2_appendDrawn_b2_s (rX2_appendDrawn_b2 f) (nI e) (nI e) M = _
    unfold rX2_appendDrawn_b2_s
    rw [if_pos (nI_le (Nat.le_refl _) (by omega))]
  · show rX7_some_b8_s (rX7_some_b8 f) (nI e) (nI e) M = _
    unfold rX7_some_b8_s
    rw [if_pos (nI_le (Nat.le_refl _) (by omega))]
  · obtain ⟨C0, k0, d0⟩ := c_next hc 256 (x := 256) rfl (by decide) (by decide)
    obtain ⟨C1, k1, d1⟩ := c_app d0 (b := (vl sd 256)) (vl_lt (by decide)) (by omega)
    obtain ⟨R0, m0, u0⟩ := r_draws hr 256 (x := 256) rfl (by decide) (by decide)
    obtain ⟨R1, m1, u1⟩ := r_lay u0 (b := (vl sd 256)) (vl_lt (by decide)) (by omega)
    refine ⟨_, n + 1, _, C1, R1, by omega, by omega, d1, u1, ?_, ?_⟩
    · show rX2_appendDrawn_b2_s (rX2_appendDrawn_b2 f) (nI e) (nI i) Mc = rX2_appendDrawn_b2 f (nI e) (nI (i + 1)) C1
      unfold rX2_appendDrawn_b2_s
      rw [if_neg (nI_ge hi (by omega)), k0, bd2_some, k1, Option.bind_some, lt_e, nI_1]
    · show rX7_some_b8_s (rX7_some_b8 g) (nI e) (nI i) Mr = rX7_some_b8 g (nI e) (nI (i + 1)) R1
      unfold rX7_some_b8_s
      rw [if_neg (nI_ge hi (by omega)), m0, bd2_some, m1, Option.bind_some, lt_e, nI_1]
theorem g_drawn0 (e : Nat) (he : e ≤ 60) (hc : DC A t n sd Mc) (hr : DR B t n sd Mr) (hn : n + 1 * e ≤ 1200) : E2 A B n (n + 1 * e) (rX2_appendDrawn_b2 FU (nI e) 0 Mc) (rX7_draw_b69 FU 0 (nI e) 0 Mr) (some) (rX7_draw_b100 0) := by
  refine g_loop (fun f x M => rX2_appendDrawn_b2 f (nI e) x M) (fun f x M => rX7_draw_b69 f 0 (nI e) x M) (some) (rX7_draw_b100 0) 1 e (fun f M => ?_) (fun f M => ?_) (fun i f g t n sd Mc Mr hi hc hr hn => ?_) e 0 FU FU t n sd Mc Mr (Nat.zero_add _) (fuok (by omega)) (fuok (by omega)) hc hr hn
  · show rX2_appendDrawn_b2_s (rX2_appendDrawn_b2 f) (nI e) (nI e) M = _
    unfold rX2_appendDrawn_b2_s
    rw [if_pos (nI_le (Nat.le_refl _) (by omega))]
  · show rX7_draw_b69_s (rX7_draw_b69 f) 0 (nI e) (nI e) M = _
    unfold rX7_draw_b69_s
    rw [if_pos (nI_le (Nat.le_refl _) (by omega))]
  · obtain ⟨C0, k0, d0⟩ := c_next hc 256 (x := 256) rfl (by decide) (by decide)
    obtain ⟨C1, k1, d1⟩ := c_app d0 (b := (vl sd 256)) (vl_lt (by decide)) (by omega)
    obtain ⟨R0, m0, u0⟩ := r_draws hr 256 (x := 256) rfl (by decide) (by decide)
    obtain ⟨R1, m1, u1⟩ := r_lay u0 (b := (vl sd 256)) (vl_lt (by decide)) (by omega)
    refine ⟨_, n + 1, _, C1, R1, by omega, by omega, d1, u1, ?_, ?_⟩
    · show rX2_appendDrawn_b2_s (rX2_appendDrawn_b2 f) (nI e) (nI i) Mc = rX2_appendDrawn_b2 f (nI e) (nI (i + 1)) C1
      unfold rX2_appendDrawn_b2_s
      rw [if_neg (nI_ge hi (by omega)), k0, bd2_some, k1, Option.bind_some, lt_e, nI_1]
    · show rX7_draw_b69_s (rX7_draw_b69 g) 0 (nI e) (nI i) Mr = rX7_draw_b69 g 0 (nI e) (nI (i + 1)) R1
      unfold rX7_draw_b69_s
      rw [if_neg (nI_ge hi (by omega)), m0, bd2_some, m1, Option.bind_some, lt_e, nI_1]
theorem g_runs (e : Nat) (he : e ≤ 60) (hc : DC A t n sd Mc) (hr : DR B t n sd Mr) (hn : n + 3 * e ≤ 1200) : E2 A B n (n + 3 * e) (rX2_makeRuns_b10 FU (nI e) 0 Mc) (rX7_family_b7 FU (nI e) 0 Mr) (kEnd) (some) := by
  refine g_loop (fun f x M => rX2_makeRuns_b10 f (nI e) x M) (fun f x M => rX7_family_b7 f (nI e) x M) (kEnd) (some) 3 e (fun f M => ?_) (fun f M => ?_) (fun i f g t n sd Mc Mr hi hc hr hn => ?_) e 0 FU FU t n sd Mc Mr (Nat.zero_add _) (fuok (by omega)) (fuok (by omega)) hc hr hn
  · show rX2_makeRuns_b10_s (rX2_makeRuns_b10 f) (nI e) (nI e) M = _
    unfold rX2_makeRuns_b10_s
    rw [if_pos (nI_le (Nat.le_refl _) (by omega))]; rfl
  · show rX7_family_b7_s (rX7_family_b7 f) (nI e) (nI e) M = _
    unfold rX7_family_b7_s
    rw [if_pos (nI_le (Nat.le_refl _) (by omega))]
  · obtain ⟨C0, k0, d0⟩ := c_next hc 256 (x := 256) rfl (by decide) (by decide)
    obtain ⟨C1, k1, d1⟩ := c_app3 d0 2 255 (vl sd 256) (x := 2) (y := 255) (z := nI (vl sd 256)) rfl rfl rfl (by omega) (by omega) (vl_lt (by decide)) (by omega)
    obtain ⟨R0, m0, u0⟩ := r_lays hr 2 255 (x := 2) (y := 255) rfl rfl (by omega) (by omega) (by omega)
    obtain ⟨R1, m1, u1⟩ := r_draws u0 256 (x := 256) rfl (by decide) (by decide)
    obtain ⟨R2, m2, u2⟩ := r_lay u1 (b := (vl sd 256)) (vl_lt (by decide)) (by omega)
    refine ⟨_, n + 3, _, C1, R2, by omega, by omega, d1, u2, ?_, ?_⟩
    · show rX2_makeRuns_b10_s (rX2_makeRuns_b10 f) (nI e) (nI i) Mc = rX2_makeRuns_b10 f (nI e) (nI (i + 1)) C1
      unfold rX2_makeRuns_b10_s
      rw [if_neg (nI_ge hi (by omega)), k0, bd2_some, k1, Option.bind_some, lt_e, nI_1]
    · show rX7_family_b7_s (rX7_family_b7 g) (nI e) (nI i) Mr = rX7_family_b7 g (nI e) (nI (i + 1)) R2
      unfold rX7_family_b7_s
      rw [if_neg (nI_ge hi (by omega)), m0, Option.bind_some, m1, bd2_some, m2, Option.bind_some, lt_e, nI_1]
theorem g_over (e : Nat) (he : e ≤ 60) (hc : DC A t n sd Mc) (hr : DR B t n sd Mr) (hn : n + 3 * e ≤ 1200) : E2 A B n (n + 3 * e) (rX2_makeOverlaps_b23 FU (nI e) 0 Mc) (rX7_family_b53 FU (nI e) 0 Mr) (kEnd) (some) := by
  refine g_loop (fun f x M => rX2_makeOverlaps_b23 f (nI e) x M) (fun f x M => rX7_family_b53 f (nI e) x M) (kEnd) (some) 3 e (fun f M => ?_) (fun f M => ?_) (fun i f g t n sd Mc Mr hi hc hr hn => ?_) e 0 FU FU t n sd Mc Mr (Nat.zero_add _) (fuok (by omega)) (fuok (by omega)) hc hr hn
  · show rX2_makeOverlaps_b23_s (rX2_makeOverlaps_b23 f) (nI e) (nI e) M = _
    unfold rX2_makeOverlaps_b23_s
    rw [if_pos (nI_le (Nat.le_refl _) (by omega))]; rfl
  · show rX7_family_b53_s (rX7_family_b53 f) (nI e) (nI e) M = _
    unfold rX7_family_b53_s
    rw [if_pos (nI_le (Nat.le_refl _) (by omega))]
  · obtain ⟨C0, k0, d0⟩ := c_app3 hc 3 1 255 (x := 3) (y := 1) (z := 255) rfl rfl rfl (by omega) (by omega) (by omega) (by omega)
    obtain ⟨R0, m0, u0⟩ := r_lays hr 3 1 (x := 3) (y := 1) rfl rfl (by omega) (by omega) (by omega)
    obtain ⟨R1, m1, u1⟩ := r_l1 u0 255 (x := 255) rfl (by omega) (by omega)
    refine ⟨_, n + 3, _, C0, R1, by omega, by omega, d0, u1, ?_, ?_⟩
    · show rX2_makeOverlaps_b23_s (rX2_makeOverlaps_b23 f) (nI e) (nI i) Mc = rX2_makeOverlaps_b23 f (nI e) (nI (i + 1)) C0
      unfold rX2_makeOverlaps_b23_s
      rw [if_neg (nI_ge hi (by omega)), k0, Option.bind_some, lt_e, nI_1]
    · show rX7_family_b53_s (rX7_family_b53 g) (nI e) (nI i) Mr = rX7_family_b53 g (nI e) (nI (i + 1)) R1
      unfold rX7_family_b53_s
      rw [if_neg (nI_ge hi (by omega)), m0, Option.bind_some, m1, Option.bind_some, lt_e, nI_1]
theorem g_notes (e : Nat) (he : e ≤ 60) (hc : DC A t n sd Mc) (hr : DR B t n sd Mr) (hn : n + 2 * e ≤ 1200) : E2 A B n (n + 2 * e) (rX2_appendEmptyNotes_b2 FU (nI e) 0 Mc) (rX7_family_b87 FU (nI e) 0 Mr) (some) (some) := by
  refine g_loop (fun f x M => rX2_appendEmptyNotes_b2 f (nI e) x M) (fun f x M => rX7_family_b87 f (nI e) x M) (some) (some) 2 e (fun f M => ?_) (fun f M => ?_) (fun i f g t n sd Mc Mr hi hc hr hn => ?_) e 0 FU FU t n sd Mc Mr (Nat.zero_add _) (fuok (by omega)) (fuok (by omega)) hc hr hn
  · show rX2_appendEmptyNotes_b2_s (rX2_appendEmptyNotes_b2 f) (nI e) (nI e) M = _
    unfold rX2_appendEmptyNotes_b2_s
    rw [if_pos (nI_le (Nat.le_refl _) (by omega))]
  · show rX7_family_b87_s (rX7_family_b87 f) (nI e) (nI e) M = _
    unfold rX7_family_b87_s
    rw [if_pos (nI_le (Nat.le_refl _) (by omega))]
  · obtain ⟨C0, k0, d0⟩ := c_app2 hc 5 0 (x := 5) (y := 0) rfl rfl (by omega) (by omega) (by omega)
    obtain ⟨R0, m0, u0⟩ := r_lays hr 5 0 (x := 5) (y := 0) rfl rfl (by omega) (by omega) (by omega)
    refine ⟨_, n + 2, _, C0, R0, by omega, by omega, d0, u0, ?_, ?_⟩
    · show rX2_appendEmptyNotes_b2_s (rX2_appendEmptyNotes_b2 f) (nI e) (nI i) Mc = rX2_appendEmptyNotes_b2 f (nI e) (nI (i + 1)) C0
      unfold rX2_appendEmptyNotes_b2_s
      rw [if_neg (nI_ge hi (by omega)), k0, Option.bind_some, lt_e, nI_1]
    · show rX7_family_b87_s (rX7_family_b87 g) (nI e) (nI i) Mr = rX7_family_b87 g (nI e) (nI (i + 1)) R0
      unfold rX7_family_b87_s
      rw [if_neg (nI_ge hi (by omega)), m0, Option.bind_some, lt_e, nI_1]
theorem g_notes2 (e : Nat) (he : e ≤ 60) (hc : DC A t n sd Mc) (hr : DR B t n sd Mr) (hn : n + 2 * e ≤ 1200) : E2 A B n (n + 2 * e) (rX2_appendEmptyNotes_b2 FU (nI e) 0 Mc) (rX7_family_b216 FU (nI e) 0 Mr) (some) (some) := by
  refine g_loop (fun f x M => rX2_appendEmptyNotes_b2 f (nI e) x M) (fun f x M => rX7_family_b216 f (nI e) x M) (some) (some) 2 e (fun f M => ?_) (fun f M => ?_) (fun i f g t n sd Mc Mr hi hc hr hn => ?_) e 0 FU FU t n sd Mc Mr (Nat.zero_add _) (fuok (by omega)) (fuok (by omega)) hc hr hn
  · show rX2_appendEmptyNotes_b2_s (rX2_appendEmptyNotes_b2 f) (nI e) (nI e) M = _
    unfold rX2_appendEmptyNotes_b2_s
    rw [if_pos (nI_le (Nat.le_refl _) (by omega))]
  · show rX7_family_b216_s (rX7_family_b216 f) (nI e) (nI e) M = _
    unfold rX7_family_b216_s
    rw [if_pos (nI_le (Nat.le_refl _) (by omega))]
  · obtain ⟨C0, k0, d0⟩ := c_app2 hc 5 0 (x := 5) (y := 0) rfl rfl (by omega) (by omega) (by omega)
    obtain ⟨R0, m0, u0⟩ := r_lays hr 5 0 (x := 5) (y := 0) rfl rfl (by omega) (by omega) (by omega)
    refine ⟨_, n + 2, _, C0, R0, by omega, by omega, d0, u0, ?_, ?_⟩
    · show rX2_appendEmptyNotes_b2_s (rX2_appendEmptyNotes_b2 f) (nI e) (nI i) Mc = rX2_appendEmptyNotes_b2 f (nI e) (nI (i + 1)) C0
      unfold rX2_appendEmptyNotes_b2_s
      rw [if_neg (nI_ge hi (by omega)), k0, Option.bind_some, lt_e, nI_1]
    · show rX7_family_b216_s (rX7_family_b216 g) (nI e) (nI i) Mr = rX7_family_b216 g (nI e) (nI (i + 1)) R0
      unfold rX7_family_b216_s
      rw [if_neg (nI_ge hi (by omega)), m0, Option.bind_some, lt_e, nI_1]
theorem g_agains (e : Nat) (he : e ≤ 60) (hc : DC A t n sd Mc) (hr : DR B t n sd Mr) (hn : n + 2 * e ≤ 1200) : E2 A B n (n + 2 * e) (rX2_makeAgains_b23 FU (nI e) 0 Mc) (rX7_family_b131 FU (nI e) 0 Mr) (kEnd) (some) := by
  refine g_loop (fun f x M => rX2_makeAgains_b23 f (nI e) x M) (fun f x M => rX7_family_b131 f (nI e) x M) (kEnd) (some) 2 e (fun f M => ?_) (fun f M => ?_) (fun i f g t n sd Mc Mr hi hc hr hn => ?_) e 0 FU FU t n sd Mc Mr (Nat.zero_add _) (fuok (by omega)) (fuok (by omega)) hc hr hn
  · show rX2_makeAgains_b23_s (rX2_makeAgains_b23 f) (nI e) (nI e) M = _
    unfold rX2_makeAgains_b23_s
    rw [if_pos (nI_le (Nat.le_refl _) (by omega))]; rfl
  · show rX7_family_b131_s (rX7_family_b131 f) (nI e) (nI e) M = _
    unfold rX7_family_b131_s
    rw [if_pos (nI_le (Nat.le_refl _) (by omega))]
  · obtain ⟨C0, k0, d0⟩ := c_app2 hc 6 i (x := 6) (y := nI i) rfl rfl (by omega) (by omega) (by omega)
    obtain ⟨R0, m0, u0⟩ := r_lays hr 6 i (x := 6) (y := nI i) rfl rfl (by omega) (by omega) (by omega)
    refine ⟨_, n + 2, _, C0, R0, by omega, by omega, d0, u0, ?_, ?_⟩
    · show rX2_makeAgains_b23_s (rX2_makeAgains_b23 f) (nI e) (nI i) Mc = rX2_makeAgains_b23 f (nI e) (nI (i + 1)) C0
      unfold rX2_makeAgains_b23_s
      rw [if_neg (nI_ge hi (by omega)), k0, Option.bind_some, lt_e, nI_1]
    · show rX7_family_b131_s (rX7_family_b131 g) (nI e) (nI i) Mr = rX7_family_b131 g (nI e) (nI (i + 1)) R0
      unfold rX7_family_b131_s
      rw [if_neg (nI_ge hi (by omega)), m0, Option.bind_some, lt_e, nI_1]
theorem g_tab1 (e : Nat) (he : e ≤ 60) (hc : DC A t n sd Mc) (hr : DR B t n sd Mr) (hn : n + 1 * 8 ≤ 1200) : E2 A B n (n + 1 * 8) (rX2_makeTables_b18 FU (nI e) 0 Mc) (rX7_family_b168 FU (nI e) 0 Mr) (rX2_makeTables_b40 FU (nI e) 0) (rX7_family_b187 FU (nI e) 0) := by
  refine g_loop (fun f x M => rX2_makeTables_b18 f (nI e) x M) (fun f x M => rX7_family_b168 f (nI e) x M) (rX2_makeTables_b40 FU (nI e) 0) (rX7_family_b187 FU (nI e) 0) 1 8 (fun f M => ?_) (fun f M => ?_) (fun i f g t n sd Mc Mr hi hc hr hn => ?_) 8 0 FU FU t n sd Mc Mr (Nat.zero_add _) (fuok (by omega)) (fuok (by omega)) hc hr hn
  · show rX2_makeTables_b18_s (rX2_makeTables_b18 f) (nI e) (nI 8) M = _
    unfold rX2_makeTables_b18_s
    rw [if_pos (by decide)]
  · show rX7_family_b168_s (rX7_family_b168 f) (nI e) (nI 8) M = _
    unfold rX7_family_b168_s
    rw [if_pos (by decide)]
  · obtain ⟨C0, k0, d0⟩ := c_app hc (b := i) (by omega) (by omega)
    obtain ⟨R0, m0, u0⟩ := r_lay hr (b := i) (by omega) (by omega)
    refine ⟨_, n + 1, _, C0, R0, by omega, by omega, d0, u0, ?_, ?_⟩
    · show rX2_makeTables_b18_s (rX2_makeTables_b18 f) (nI e) (nI i) Mc = rX2_makeTables_b18 f (nI e) (nI (i + 1)) C0
      unfold rX2_makeTables_b18_s
      rw [if_neg (show ¬ (8 : Int32) ≤ nI i from nI_ge (a := i) (b := 8) hi (by decide)), k0, Option.bind_some, lt_e, nI_1]
    · show rX7_family_b168_s (rX7_family_b168 g) (nI e) (nI i) Mr = rX7_family_b168 g (nI e) (nI (i + 1)) R0
      unfold rX7_family_b168_s
      rw [if_neg (show ¬ (8 : Int32) ≤ nI i from nI_ge (a := i) (b := 8) hi (by decide)), m0, Option.bind_some, lt_e, nI_1]
theorem g_tab2 (e : Nat) (he : e ≤ 60) (hc : DC A t n sd Mc) (hr : DR B t n sd Mr) (hn : n + 1 * 8 ≤ 1200) : E2 A B n (n + 1 * 8) (rX2_makeTables_b40 FU (nI e) 0 Mc) (rX7_family_b187 FU (nI e) 0 Mr) (fun M => Option.bind (rX0_append 1 1200 1200 0 M) fun M8 => Option.bind (rX2_appendEmptyNotes (nI e) M8) fun M10 => kEnd M10) (fun M => Option.bind (rX7_lay 0 M) fun M15 => rX7_family_b216 FU (nI e) 0 M15) := by
  refine g_loop (fun f x M => rX2_makeTables_b40 f (nI e) x M) (fun f x M => rX7_family_b187 f (nI e) x M) (fun M => Option.bind (rX0_append 1 1200 1200 0 M) fun M8 => Option.bind (rX2_appendEmptyNotes (nI e) M8) fun M10 => kEnd M10) (fun M => Option.bind (rX7_lay 0 M) fun M15 => rX7_family_b216 FU (nI e) 0 M15) 1 8 (fun f M => ?_) (fun f M => ?_) (fun i f g t n sd Mc Mr hi hc hr hn => ?_) 8 0 FU FU t n sd Mc Mr (Nat.zero_add _) (fuok (by omega)) (fuok (by omega)) hc hr hn
  · show rX2_makeTables_b40_s (rX2_makeTables_b40 f) (nI e) (nI 8) M = _
    unfold rX2_makeTables_b40_s
    rw [if_pos (by decide)]; rfl
  · show rX7_family_b187_s (rX7_family_b187 f) (nI e) (nI 8) M = _
    unfold rX7_family_b187_s
    rw [if_pos (by decide)]
  · obtain ⟨C0, k0, d0⟩ := c_next hc 8 (x := 8) rfl (by decide) (by decide)
    obtain ⟨C1, k1, d1⟩ := c_app d0 (b := (vl sd 8)) (Nat.lt_trans (vl_lt (by decide)) (by decide : 8 < 256)) (by omega)
    obtain ⟨R0, m0, u0⟩ := r_draws hr 8 (x := 8) rfl (by decide) (by decide)
    obtain ⟨R1, m1, u1⟩ := r_lay u0 (b := (vl sd 8)) (Nat.lt_trans (vl_lt (by decide)) (by decide : 8 < 256)) (by omega)
    refine ⟨_, n + 1, _, C1, R1, by omega, by omega, d1, u1, ?_, ?_⟩
    · show rX2_makeTables_b40_s (rX2_makeTables_b40 f) (nI e) (nI i) Mc = rX2_makeTables_b40 f (nI e) (nI (i + 1)) C1
      unfold rX2_makeTables_b40_s
      rw [if_neg (show ¬ (8 : Int32) ≤ nI i from nI_ge (a := i) (b := 8) hi (by decide)), k0, bd2_some, k1, Option.bind_some, lt_e, nI_1]
    · show rX7_family_b187_s (rX7_family_b187 g) (nI e) (nI i) Mr = rX7_family_b187 g (nI e) (nI (i + 1)) R1
      unfold rX7_family_b187_s
      rw [if_neg (show ¬ (8 : Int32) ≤ nI i from nI_ge (a := i) (b := 8) hi (by decide)), m0, bd2_some, m1, Option.bind_some, lt_e, nI_1]
end
