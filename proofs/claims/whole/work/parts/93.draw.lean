section
variable {A B : Mm} {t : Nat → Nat} {n : Nat} {sd : Int64} {Mc Mr : Mm}
theorem m1_sub (k : Nat) : nI k + (-1) = nI k - 1 := by rw [Int32.sub_eq_add_neg]
def kcD (e : Nat) (M : Mm) : Option Mm := Option.bind (rX2_append 80 75 M) fun M4 => bd2 (rX2_next 256 M4) fun r7 M6 => Option.bind (rX2_append_ 1 1 r7 M6) fun M9 => rX2_makeDeep_b67 FU (nI e) M9
def krD (e : Nat) (M : Mm) : Option Mm := lt_ (M.1 31 2) fun y2 => Option.bind (rX7_lays 80 75 M) fun M4 => Option.bind (rX7_some 1 1 M4) fun M6 => Option.bind (rX7_close y2 M6) fun M8 => rX7_deep_b75 FU (nI e) y2 1 M8
theorem g_deep1 (e : Nat) : ∀ (k f g : Nat) (t : Nat → Nat) (n : Nat) (sd : Int64) (Mc Mr : Mm), k ≤ 60 → k < f → k < g → DC A t n sd Mc → DR B t n sd Mr → n + 5 * k ≤ 1200 → E2 A B (n + 5 * k) (n + 5 * k) (rX2_makeDeep_b4 f (nI e) (nI k - 1) Mc) (rX7_deep_b2 g (nI e) (nI k) Mr) (kcD e) (krD e) := by
  intro k
  induction k with
  | zero =>
    intro f g t n sd Mc Mr h6 hf hg hc hr hn
    obtain ⟨f, rfl⟩ : ∃ f', f = f' + 1 := ⟨f - 1, by omega⟩
    obtain ⟨g, rfl⟩ : ∃ g', g = g' + 1 := ⟨g - 1, by omega⟩
    refine ⟨t, n, sd, Mc, Mr, Nat.le_refl _, Nat.le_refl _, hc, hr, ?_, ?_⟩
    · show rX2_makeDeep_b4_s (rX2_makeDeep_b4 f) (nI e) (nI 0 - 1) Mc = _
      unfold rX2_makeDeep_b4_s
      rw [if_pos (by decide)]; rfl
    · show rX7_deep_b2_s (rX7_deep_b2 g) (nI e) (nI 0) Mr = _
      unfold rX7_deep_b2_s
      rw [if_pos (by decide)]; rfl
  | succ k ih =>
    intro f g t n sd Mc Mr h6 hf hg hc hr hn
    obtain ⟨f, rfl⟩ : ∃ f', f = f' + 1 := ⟨f - 1, by omega⟩
    obtain ⟨g, rfl⟩ : ∃ g', g = g' + 1 := ⟨g - 1, by omega⟩
    have hp : nI (k + 1) - 1 = nI k := nI_pred k
    have hy : (7 : Int32) + 7 * nI k = nI (7 + 7 * k) := by rw [k_7, nI_mul, nI_add]
    have q1 : nI (7 + 7 * k) >>> ((8 : Int32) &&& 31) = nI ((7 + 7 * k) / 256) := pk_shrN (by omega) _ 8 (by decide)
    have q2 : nI (7 + 7 * k) &&& 255 = nI ((7 + 7 * k) % 256) := pk_andN (by omega) 8 (by decide)
    have q3 : nI (7 + 7 * k) / 256 = nI ((7 + 7 * k) / 256) := pk_div (d := 256) (by omega) (by decide) (by decide)
    have q4 : nI (7 + 7 * k) - nI (7 + 7 * k) / 256 * 256 = nI ((7 + 7 * k) % 256) := pk_rem (d := 256) (by omega) (by decide) (by decide)
    have w1 : (7 + 7 * k) / 256 < 256 := by omega
    have w2 : (7 + 7 * k) % 256 < 256 := by omega
    generalize hx1 : (7 + 7 * k) / 256 = v1 at q1 q3 w1
    generalize hx2 : (7 + 7 * k) % 256 = v2 at q2 q4 w2
    obtain ⟨C1, k1, d1⟩ := c_app2 hc 80 75 (x := 80) (y := 75) rfl rfl (by decide) (by decide) (by omega)
    obtain ⟨R1, m1, u1⟩ := r_lays hr 80 75 (x := 80) (y := 75) rfl rfl (by decide) (by decide) (by omega)
    obtain ⟨C2, k2, d2⟩ := c_app3 d1 4 v1 v2 (x := 4) rfl rfl rfl (by decide) w1 w2 (by omega)
    obtain ⟨R2, m2, u2⟩ := r_l1 u1 4 (x := 4) rfl (by decide) (by omega)
    obtain ⟨R3, m3, u3⟩ := r_lays u2 v1 v2 rfl rfl w1 w2 (by omega)
    obtain ⟨t9, n9, s9, C9, R9, a1, a2, a3, a4, a5, a6⟩ := ih f g _ (n + 5) sd C2 R3 (by omega) (by omega) (by omega) d2 u3 (by omega)
    refine ⟨t9, n9, s9, C9, R9, by omega, by omega, a3, a4, ?_, ?_⟩
    · show rX2_makeDeep_b4_s (rX2_makeDeep_b4 f) (nI e) (nI (k + 1) - 1) Mc = _
      unfold rX2_makeDeep_b4_s
      rw [hp, if_neg (nI_pos (by omega)), lt_e, hy, k1, Option.bind_some, q1, q2, k2, Option.bind_some, lt_e, m1_sub, a5]
    · show rX7_deep_b2_s (rX7_deep_b2 g) (nI e) (nI (k + 1)) Mr = _
      unfold rX7_deep_b2_s
      rw [if_neg (nI_nle (by omega) (by omega)), lt_e, hp, hy, m1, Option.bind_some, m2, Option.bind_some, q4, q3, m3, Option.bind_some, lt_e, m1_sub, hp, a6]
theorem g_deep2 (e : Nat) (he : e ≤ 60) : ∀ (k f g : Nat) (t : Nat → Nat) (n : Nat) (sd : Int64) (Mc Mr : Mm), k ≤ e → k < f → k < g → DC A t n sd Mc → DR B t n sd Mr → 5 * e ≤ n → n + 2 * k ≤ 1200 → E2 A B n (n + 2 * k) (rX2_makeDeep_b67 f (nI k - 1) Mc) (rX7_deep_b75 g (nI e) (nI (5 * e)) (nI (e - k + 1)) Mr) some some := by
  intro k
  induction k with
  | zero =>
    intro f g t n sd Mc Mr h6 hf hg hc hr h5 hn
    obtain ⟨f, rfl⟩ : ∃ f', f = f' + 1 := ⟨f - 1, by omega⟩
    obtain ⟨g, rfl⟩ : ∃ g', g = g' + 1 := ⟨g - 1, by omega⟩
    refine ⟨t, n, sd, Mc, Mr, Nat.le_refl _, Nat.le_refl _, hc, hr, ?_, ?_⟩
    · show rX2_makeDeep_b67_s (rX2_makeDeep_b67 f) (nI 0 - 1) Mc = _
      unfold rX2_makeDeep_b67_s
      rw [if_pos (by decide)]
    · show rX7_deep_b75_s (rX7_deep_b75 g) (nI e) (nI (5 * e)) (nI (e - 0 + 1)) Mr = _
      unfold rX7_deep_b75_s
      rw [if_pos (nI_lt (by omega) (by omega))]
  | succ k ih =>
    intro f g t n sd Mc Mr h6 hf hg hc hr h5 hn
    obtain ⟨f, rfl⟩ : ∃ f', f = f' + 1 := ⟨f - 1, by omega⟩
    obtain ⟨g, rfl⟩ : ∃ g', g = g' + 1 := ⟨g - 1, by omega⟩
    have hp : nI (k + 1) - 1 = nI k := nI_pred k
    have hx : (5 : Int32) * nI k = nI (5 * k) := by rw [k_5, nI_mul]
    have hy : nI (5 * e) - 5 * nI (e - (k + 1) + 1) = nI (5 * k) := by
      rw [k_5, nI_mul, pk_sub (by omega)]
      congr 1; omega
    have hz : nI (e - (k + 1) + 1) + 1 = nI (e - k + 1) := by rw [nI_1]; congr 1; omega
    obtain ⟨C1, k1, d1⟩ := c_end hc (5 * k) (x := nI (5 * k)) rfl (by omega) (by omega)
    obtain ⟨R1, m1, u1⟩ := r_close hr (5 * k) (x := nI (5 * k)) rfl (by omega) (by omega)
    obtain ⟨t9, n9, s9, C9, R9, a1, a2, a3, a4, a5, a6⟩ := ih f g _ (n + 2) sd C1 R1 (by omega) (by omega) (by omega) d1 u1 (by omega) (by omega)
    refine ⟨t9, n9, s9, C9, R9, by omega, by omega, a3, a4, ?_, ?_⟩
    · show rX2_makeDeep_b67_s (rX2_makeDeep_b67 f) (nI (k + 1) - 1) Mc = _
      unfold rX2_makeDeep_b67_s
      rw [hp, if_neg (nI_pos (by omega)), hx, k1, Option.bind_some, lt_e, m1_sub, a5]
    · show rX7_deep_b75_s (rX7_deep_b75 g) (nI e) (nI (5 * e)) (nI (e - (k + 1) + 1)) Mr = _
      unfold rX7_deep_b75_s
      rw [if_neg (nI_nlt (by omega) (by omega)), hy, m1, Option.bind_some, lt_e, hz, a6]
theorem g_deep (e : Nat) (he : e ≤ 60) (hc : DC A t 0 sd Mc) (hr : DR B t 0 sd Mr) : E2 A B 0 1200 (rX2_makeDeep (nI e) Mc) (rX7_deep (nI e) Mr) some some := by
  obtain ⟨t1, n1, s1, C1, R1, a1, a2, a3, a4, a5, a6⟩ := g_deep1 (A := A) (B := B) e e FU FU t 0 sd Mc Mr he (fuok (by omega)) (fuok (by omega)) hc hr (by omega)
  obtain rfl : n1 = 5 * e := by omega
  obtain ⟨C2, k2, d2⟩ := c_app2 a3 80 75 (x := 80) (y := 75) rfl rfl (by decide) (by decide) (by omega)
  obtain ⟨R2, m2, u2⟩ := r_lays a4 80 75 (x := 80) (y := 75) rfl rfl (by decide) (by decide) (by omega)
  obtain ⟨C3, k3, d3⟩ := c_next d2 256 (x := 256) rfl (by decide) (by decide)
  obtain ⟨C4, k4, d4⟩ := c_app3 d3 1 1 (vl s1 256) (x := 1) (y := 1) rfl rfl rfl (by decide) (by decide) (vl_lt (by decide)) (by omega)
  obtain ⟨R4, m4, u4⟩ := r_one u2 (by omega)
  obtain ⟨C5, k5, d5⟩ := c_end d4 (5 * e) (x := nI (5 * e)) rfl (by omega) (by omega)
  obtain ⟨R5, m5, u5⟩ := r_close u4 (5 * e) (x := nI (5 * e)) rfl (by omega) (by omega)
  obtain ⟨t9, n9, s9, C9, R9, b1, b2, b3, b4, b5, b6⟩ := g_deep2 (A := A) (B := B) e he e 99999 FU _ _ _ C5 R5 (Nat.le_refl _) (by omega) (fuok (by omega)) d5 u5 (by omega) (by omega)
  have hx : (5 : Int32) * nI e = nI (5 * e) := by rw [k_5, nI_mul]
  refine ⟨t9, n9, s9, C9, R9, by omega, by omega, b3, b4, ?_, ?_⟩
  · unfold rX2_makeDeep
    rw [lt_e, a5]
    unfold kcD
    rw [k2, Option.bind_some, k3, bd2_some, k4, Option.bind_some]
    show rX2_makeDeep_b67_s (rX2_makeDeep_b67 99999) (nI e) C4 = _
    unfold rX2_makeDeep_b67_s
    rw [if_neg (nI_pos (by omega)), hx, k5, Option.bind_some, lt_e, m1_sub, b5]
  · unfold rX7_deep
    rw [a6]
    unfold krD
    rw [lt_e, a4.1.2.2.1, m2, Option.bind_some, m4, Option.bind_some, m5, Option.bind_some]
    rw [show e - e + 1 = 1 by omega] at b6
    exact b6
/-- the bodies of the families, up to their ends -/
theorem g_f0 (e : Nat) (he : e ≤ 60) (hc : DC A t 0 sd Mc) (hr : DR B t 0 sd Mr) : E2 A B 2 1100 (rX2_makeLies (nI e) Mc) (Option.bind (rX7_lays 80 75 Mr) fun M12 => Option.bind (rX7_lays 1 255 M12) fun M28 => rX7_draw_b69 FU 0 (nI e) 0 M28) kEnd (rX7_draw_b100 0) := by
  obtain ⟨C1, k1, d1⟩ := c_app2 hc 80 75 (x := 80) (y := 75) rfl rfl (by decide) (by decide) (by omega)
  obtain ⟨R1, m1, u1⟩ := r_lays hr 80 75 (x := 80) (y := 75) rfl rfl (by decide) (by decide) (by omega)
  obtain ⟨C2, k2, d2⟩ := c_app2 d1 1 255 (x := 1) (y := 255) rfl rfl (by decide) (by decide) (by omega)
  obtain ⟨R2, m2, u2⟩ := r_lays u1 1 255 (x := 1) (y := 255) rfl rfl (by decide) (by decide) (by omega)
  obtain ⟨t9, n9, s9, C9, R9, a1, a2, a3, a4, a5, a6⟩ := g_drawn0 e he d2 u2 (by omega)
  refine ⟨t9, n9, s9, C9, R9, by omega, by omega, a3, a4, ?_, ?_⟩
  · unfold rX2_makeLies rX2_appendDrawn
    rw [k1, Option.bind_some, k2, Option.bind_some, a5]; rfl
  · rw [m1, Option.bind_some, m2, Option.bind_some, a6]
theorem g_f1 (e : Nat) (he : e ≤ 60) (hc : DC A t 0 sd Mc) (hr : DR B t 0 sd Mr) : E2 A B 2 1100 (rX2_makeRuns (nI e) Mc) (Option.bind (rX7_lays 80 75 Mr) fun M12 => rX7_family 1 (nI e) M12) kEnd some := by
  obtain ⟨C1, k1, d1⟩ := c_app2 hc 80 75 (x := 80) (y := 75) rfl rfl (by decide) (by decide) (by omega)
  obtain ⟨R1, m1, u1⟩ := r_lays hr 80 75 (x := 80) (y := 75) rfl rfl (by decide) (by decide) (by omega)
  obtain ⟨t9, n9, s9, C9, R9, a1, a2, a3, a4, a5, a6⟩ := g_runs e he d1 u1 (by omega)
  refine ⟨t9, n9, s9, C9, R9, by omega, by omega, a3, a4, ?_, ?_⟩
  · unfold rX2_makeRuns
    rw [k1, Option.bind_some, a5]
  · rw [m1, Option.bind_some]
    unfold rX7_family
    rw [if_pos rfl, a6]
theorem g_f2 (e : Nat) (he : e ≤ 60) (hc : DC A t 0 sd Mc) (hr : DR B t 0 sd Mr) : E2 A B 2 1100 (rX2_makeOverlaps (nI e) Mc) (Option.bind (rX7_lays 80 75 Mr) fun M12 => rX7_family 2 (nI e) M12) kEnd some := by
  obtain ⟨C1, k1, d1⟩ := c_app2 hc 80 75 (x := 80) (y := 75) rfl rfl (by decide) (by decide) (by omega)
  obtain ⟨R1, m1, u1⟩ := r_lays hr 80 75 (x := 80) (y := 75) rfl rfl (by decide) (by decide) (by omega)
  obtain ⟨C3, k3, d3⟩ := c_next d1 256 (x := 256) rfl (by decide) (by decide)
  obtain ⟨C4, k4, d4⟩ := c_app3 d3 1 1 (vl sd 256) (x := 1) (y := 1) rfl rfl rfl (by decide) (by decide) (vl_lt (by decide)) (by omega)
  obtain ⟨R4, m4, u4⟩ := r_one u1 (by omega)
  obtain ⟨t9, n9, s9, C9, R9, a1, a2, a3, a4, a5, a6⟩ := g_over e he d4 u4 (by omega)
  refine ⟨t9, n9, s9, C9, R9, by omega, by omega, a3, a4, ?_, ?_⟩
  · unfold rX2_makeOverlaps
    rw [k1, Option.bind_some, k3, bd2_some, k4, Option.bind_some, a5]
  · rw [m1, Option.bind_some]
    unfold rX7_family
    rw [if_neg (by decide), if_pos rfl, m4, Option.bind_some, a6]
theorem g_f4 (e : Nat) (he : e ≤ 60) (hc : DC A t 0 sd Mc) (hr : DR B t 0 sd Mr) : E2 A B 2 1100 (rX2_makeEmpty (nI e) Mc) (Option.bind (rX7_lays 80 75 Mr) fun M12 => rX7_family 4 (nI e) M12) kEnd some := by
  obtain ⟨C1, k1, d1⟩ := c_app2 hc 80 75 (x := 80) (y := 75) rfl rfl (by decide) (by decide) (by omega)
  obtain ⟨R1, m1, u1⟩ := r_lays hr 80 75 (x := 80) (y := 75) rfl rfl (by decide) (by decide) (by omega)
  obtain ⟨t9, n9, s9, C9, R9, a1, a2, a3, a4, a5, a6⟩ := g_notes e he d1 u1 (by omega)
  refine ⟨t9, n9, s9, C9, R9, by omega, by omega, a3, a4, ?_, ?_⟩
  · unfold rX2_makeEmpty rX2_appendEmptyNotes
    rw [k1, Option.bind_some, a5]; rfl
  · rw [m1, Option.bind_some]
    unfold rX7_family
    rw [if_neg (by decide), if_neg (by decide), if_pos rfl, a6]
theorem g_f5 (e : Nat) (he : e ≤ 60) (hc : DC A t 0 sd Mc) (hr : DR B t 0 sd Mr) : E2 A B 2 1100 (rX2_makeAgains (nI e) Mc) (Option.bind (rX7_lays 80 75 Mr) fun M12 => rX7_family 5 (nI e) M12) kEnd some := by
  obtain ⟨C1, k1, d1⟩ := c_app2 hc 80 75 (x := 80) (y := 75) rfl rfl (by decide) (by decide) (by omega)
  obtain ⟨R1, m1, u1⟩ := r_lays hr 80 75 (x := 80) (y := 75) rfl rfl (by decide) (by decide) (by omega)
  obtain ⟨C3, k3, d3⟩ := c_next d1 256 (x := 256) rfl (by decide) (by decide)
  obtain ⟨C4, k4, d4⟩ := c_app3 d3 2 1 (vl sd 256) (x := 2) (y := 1) rfl rfl rfl (by decide) (by decide) (vl_lt (by decide)) (by omega)
  obtain ⟨R2, m2, u2⟩ := r_lays u1 2 1 (x := 2) (y := 1) rfl rfl (by decide) (by decide) (by omega)
  obtain ⟨R3, m3, u3⟩ := r_draws u2 256 (x := 256) rfl (by decide) (by decide)
  obtain ⟨R4, m4, u4⟩ := r_lay u3 (b := vl sd 256) (vl_lt (by decide)) (by omega)
  obtain ⟨t9, n9, s9, C9, R9, a1, a2, a3, a4, a5, a6⟩ := g_agains e he d4 u4 (by omega)
  refine ⟨t9, n9, s9, C9, R9, by omega, by omega, a3, a4, ?_, ?_⟩
  · unfold rX2_makeAgains
    rw [k1, Option.bind_some, k3, bd2_some, k4, Option.bind_some, a5]
  · rw [m1, Option.bind_some]
    unfold rX7_family
    rw [if_neg (by decide), if_neg (by decide), if_neg (by decide), if_pos rfl, m2, Option.bind_some, m3, bd2_some, m4, Option.bind_some, a6]
theorem g_f6 (e : Nat) (he : e ≤ 60) (hc : DC A t 0 sd Mc) (hr : DR B t 0 sd Mr) : E2 A B 2 1100 (rX2_makeTables (nI e) Mc) (Option.bind (rX7_lays 80 75 Mr) fun M12 => rX7_family 6 (nI e) M12) kEnd some := by
  obtain ⟨C1, k1, d1⟩ := c_app2 hc 80 75 (x := 80) (y := 75) rfl rfl (by decide) (by decide) (by omega)
  obtain ⟨R1, m1, u1⟩ := r_lays hr 80 75 (x := 80) (y := 75) rfl rfl (by decide) (by decide) (by omega)
  obtain ⟨C2, k2, d2⟩ := c_app2 d1 7 8 (x := 7) (y := 8) rfl rfl (by decide) (by decide) (by omega)
  obtain ⟨R2, m2, u2⟩ := r_lays u1 7 8 (x := 7) (y := 8) rfl rfl (by decide) (by decide) (by omega)
  obtain ⟨t3, n3, s3, C3, R3, a1, a2, a3, a4, a5, a6⟩ := g_tab1 e he d2 u2 (by omega)
  obtain ⟨t4, n4, s4, C4, R4, b1, b2, b3, b4, b5, b6⟩ := g_tab2 e he a3 a4 (by omega)
  dsimp only at b5 b6
  obtain ⟨C5, k5, d5⟩ := c_a1 b3 0 (x := 0) rfl (by decide) (by omega)
  obtain ⟨R5, m5, u5⟩ := r_l1 b4 0 (x := 0) rfl (by decide) (by omega)
  obtain ⟨t9, n9, s9, C9, R9, f1, f2, f3, f4, f5, f6⟩ := g_notes2 e he d5 u5 (by omega)
  refine ⟨t9, n9, s9, C9, R9, by omega, by omega, f3, f4, ?_, ?_⟩
  · unfold rX2_makeTables
    rw [k1, Option.bind_some, k2, Option.bind_some, a5, b5]
    unfold rX2_appendEmptyNotes
    rw [k5, Option.bind_some, f5]; rfl
  · rw [m1, Option.bind_some]
    unfold rX7_family
    rw [if_neg (by decide), if_neg (by decide), if_neg (by decide), if_neg (by decide), if_pos rfl, m2, Option.bind_some, a6, b6, m5, Option.bind_some, f6]
theorem g_f9 (e : Nat) (he : e ≤ 60) {x : Int32} (h1 : x ≠ 1) (h2 : x ≠ 2) (h4 : x ≠ 4) (h5 : x ≠ 5) (h6 : x ≠ 6) (hc : DC A t 0 sd Mc) (hr : DR B t 0 sd Mr) : E2 A B 2 1100 (rX2_makeDrawn (nI e) Mc) (Option.bind (rX7_lays 80 75 Mr) fun M12 => rX7_family x (nI e) M12) kEnd some := by
  obtain ⟨C1, k1, d1⟩ := c_app2 hc 80 75 (x := 80) (y := 75) rfl rfl (by decide) (by decide) (by omega)
  obtain ⟨R1, m1, u1⟩ := r_lays hr 80 75 (x := 80) (y := 75) rfl rfl (by decide) (by decide) (by omega)
  obtain ⟨t9, n9, s9, C9, R9, a1, a2, a3, a4, a5, a6⟩ := g_items e he d1 u1 (by omega)
  refine ⟨t9, n9, s9, C9, R9, by omega, by omega, a3, a4, ?_, ?_⟩
  · unfold rX2_makeDrawn
    rw [k1, Option.bind_some, a5]
  · rw [m1, Option.bind_some]
    unfold rX7_family
    rw [if_neg h1, if_neg h2, if_neg h4, if_neg h5, if_neg h6, a6]
end
