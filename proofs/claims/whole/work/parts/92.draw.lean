section
variable {A B : Mm} {t : Nat → Nat} {n : Nat} {sd : Int64} {Mc Mr : Mm}
theorem g_counted (kd m : Nat) {x : Int32} (hx : x = nI kd) (hk : kd < 256) (hm : m ≤ 60) (hc : DC A t n sd Mc) (hr : DR B t n sd Mr) (hn : n + 2 + m ≤ 1200) : E2 A B (n + 2) (n + 2 + m) (rX2_appendCounted x (nI m) Mc) (rX7_some x (nI m) Mr) some some := by
  obtain ⟨C1, k1, d1⟩ := c_app2 hc kd m (x := x) (y := nI m) hx rfl hk (by omega) (by omega)
  obtain ⟨R1, m1, u1⟩ := r_lays hr kd m (x := x) (y := nI m) hx rfl hk (by omega) (by omega)
  obtain ⟨t2, n2, s2, C2, R2, a1, a2, a3, a4, a5, a6⟩ := g_drawn m hm d1 u1 (by omega)
  refine ⟨t2, n2, s2, C2, R2, a1, by omega, a3, a4, ?_, ?_⟩
  · unfold rX2_appendCounted rX2_appendDrawn
    rw [k1, Option.bind_some, a5]; rfl
  · unfold rX7_some
    rw [m1, Option.bind_some, a6]
theorem r_one8 (f : Nat) (hr : DR B t n sd Mr) (hn : n < 1200) : ∃ N, rX7_some_b8 (f + 2) 1 0 Mr = some N ∧ DR B (ap t n (vl sd 256)) (n + 1) (nx sd) N := by
  obtain ⟨R1, m1, u1⟩ := r_draws hr 256 (x := 256) rfl (by decide) (by decide)
  obtain ⟨R2, m2, u2⟩ := r_lay u1 (b := vl sd 256) (vl_lt (by decide)) hn
  refine ⟨R2, ?_, u2⟩
  show rX7_some_b8_s (rX7_some_b8 (f + 1)) 1 0 Mr = _
  unfold rX7_some_b8_s
  rw [if_neg (by decide), m1, bd2_some, m2, Option.bind_some, lt_e]
  show rX7_some_b8_s (rX7_some_b8 f) 1 (0 + 1) R2 = _
  unfold rX7_some_b8_s
  rw [if_pos (by decide)]
theorem r_one (hr : DR B t n sd Mr) (hn : n + 3 ≤ 1200) : ∃ N, rX7_some 1 1 Mr = some N ∧ DR B (ap (ap (ap t n 1) (n + 1) 1) (n + 2) (vl sd 256)) (n + 3) (nx sd) N := by
  obtain ⟨R1, m1, u1⟩ := r_lays hr 1 1 (x := 1) (y := 1) rfl rfl (by decide) (by decide) (by omega)
  obtain ⟨R2, m2, u2⟩ := r_one8 99998 u1 (by omega)
  refine ⟨R2, ?_, u2⟩
  unfold rX7_some
  rw [m1, Option.bind_some]
  exact m2
theorem g_nest (hc : DC A t n sd Mc) (hr : DR B t n sd Mr) (hn : n + 13 ≤ 1200) : E2 A B n (n + 13) (rX2_appendDrawnNest Mc) (rX7_drawItem_b132 5 Mr) some some := by
  obtain ⟨C1, k1, d1⟩ := c_next hc 5 (x := 5) rfl (by decide) (by decide)
  obtain ⟨R1, m1, u1⟩ := r_draws hr 5 (x := 5) rfl (by decide) (by decide)
  have hv := vl_lt (sd := sd) (show 0 < 5 by decide)
  generalize vl sd 5 = v at k1 m1 hv
  have e6 : (6 : Int32) + nI v = nI (6 + v) := by rw [k_6, nI_add]
  have e7 : nI v + (6 : Int32) = nI (6 + v) := by rw [k_6, nI_add, Nat.add_comm]
  obtain ⟨C2, k2, d2⟩ := c_app3 d1 4 0 (6 + v) (x := 4) (y := 0) rfl rfl rfl (by decide) (by decide) (by omega) (by omega)
  obtain ⟨R2, m2, u2⟩ := r_lays u1 4 0 (x := 4) (y := 0) rfl rfl (by decide) (by decide) (by omega)
  obtain ⟨R3, m3, u3⟩ := r_lay u2 (b := 6 + v) (by omega) (by omega)
  obtain ⟨C4, k4, d4⟩ := c_app2 d2 80 75 (x := 80) (y := 75) rfl rfl (by decide) (by decide) (by omega)
  obtain ⟨R4, m4, u4⟩ := r_lays u3 80 75 (x := 80) (y := 75) rfl rfl (by decide) (by decide) (by omega)
  obtain ⟨t5, n5, s5, C5, R5, a1, a2, a3, a4, a5, a6⟩ := g_counted 1 v (x := 1) rfl (by decide) (by omega) d4 u4 (by omega)
  obtain ⟨C6, k6, d6⟩ := c_end a3 (n + 3) (x := nI (n + 3)) rfl (by omega) (by omega)
  obtain ⟨R6, m6, u6⟩ := r_close a4 (n + 3) (x := nI (n + 3)) rfl (by omega) (by omega)
  refine ⟨_, _, _, C6, R6, by omega, by omega, d6, u6, ?_, ?_⟩
  · unfold rX2_appendDrawnNest
    rw [k1, bd2_some, e6, k2, Option.bind_some, lt_e, d2.1.2.2.1, k4, Option.bind_some, a5, Option.bind_some, k6]; rfl
  · unfold rX7_drawItem_b132
    rw [if_neg (by decide), m1, bd2_some, m2, Option.bind_some, e7, m3, Option.bind_some, lt_e, u3.1.2.2.1, m4, Option.bind_some, a6, Option.bind_some, m6]; rfl
theorem g_again (i : Nat) (hi : i ≤ 60) (hc : DC A t n sd Mc) (hr : DR B t n sd Mr) (hn : n + 13 ≤ 1200) : E2 A B n (n + 13) (rX2_appendDrawnAgain (nI i) Mc) (if nI i ≤ 0 then rX7_drawItem_b132 4 Mr else (bd2 (rX7_draws (nI i) Mr) fun r29 M28 => Option.bind (rX7_lays 6 r29 M28) fun M31 => some M31)) some some := by
  by_cases hz : i = 0
  · subst hz
    obtain ⟨C1, k1, d1⟩ := c_next hc 256 (x := 256) rfl (by decide) (by decide)
    obtain ⟨C2, k2, d2⟩ := c_app3 d1 1 1 (vl sd 256) (x := 1) (y := 1) rfl rfl rfl (by decide) (by decide) (vl_lt (by decide)) (by omega)
    obtain ⟨R1, m1, u1⟩ := r_one hr (by omega)
    refine ⟨_, _, _, C2, R1, by omega, by omega, d2, u1, ?_, ?_⟩
    · unfold rX2_appendDrawnAgain
      rw [if_pos (by decide), k1, bd2_some, k2]; rfl
    · unfold rX7_drawItem_b132
      rw [if_pos (by decide), if_pos rfl, m1]; rfl
  · obtain ⟨C1, k1, d1⟩ := c_next hc i (x := nI i) rfl (by omega) (by omega)
    obtain ⟨R1, m1, u1⟩ := r_draws hr i (x := nI i) rfl (by omega) (by omega)
    have hv := vl_lt (sd := sd) (show 0 < i by omega)
    generalize vl sd i = v at k1 m1 hv
    obtain ⟨C2, k2, d2⟩ := c_app2 d1 6 v (x := 6) (y := nI v) rfl rfl (by decide) (by omega) (by omega)
    obtain ⟨R2, m2, u2⟩ := r_lays u1 6 v (x := 6) (y := nI v) rfl rfl (by decide) (by omega) (by omega)
    refine ⟨_, _, _, C2, R2, by omega, by omega, d2, u2, ?_, ?_⟩
    · unfold rX2_appendDrawnAgain
      rw [if_neg (nI_nle (by omega) (by omega)), k1, bd2_some, k2]; rfl
    · rw [if_neg (nI_nle (by omega) (by omega)), m1, bd2_some, m2]; rfl
theorem g_item (i : Nat) (hi : i ≤ 60) (hc : DC A t n sd Mc) (hr : DR B t n sd Mr) (hn : n + 13 ≤ 1200) : E2 A B n (n + 13) (rX2_appendDrawnItem (nI i) Mc) (rX7_drawItem (nI i) Mr) some some := by
  obtain ⟨C1, k1, d1⟩ := c_next hc 6 (x := 6) rfl (by decide) (by decide)
  obtain ⟨R1, m1, u1⟩ := r_draws hr 6 (x := 6) rfl (by decide) (by decide)
  have hv := vl_lt (sd := sd) (show 0 < 6 by decide)
  generalize vl sd 6 = v at k1 m1 hv
  generalize nx sd = s1 at d1 u1
  have fc : rX2_appendDrawnItem (nI i) Mc = bd2 (rX2_next 6 Mc) _ := rfl
  have fr : rX7_drawItem (nI i) Mr = bd2 (rX7_draws 6 Mr) _ := rfl
  rw [fc, fr, k1, m1, bd2_some, bd2_some]
  clear fc fr
  obtain rfl | rfl | rfl | rfl | rfl | rfl : v = 0 ∨ v = 1 ∨ v = 2 ∨ v = 3 ∨ v = 4 ∨ v = 5 := by omega
  · rw [if_pos (by decide), if_pos (by decide)]
    obtain ⟨C2, k2, d2⟩ := c_next d1 6 (x := 6) rfl (by decide) (by decide)
    obtain ⟨R2, m2, u2⟩ := r_draws u1 6 (x := 6) rfl (by decide) (by decide)
    have hw := vl_lt (sd := s1) (show 0 < 6 by decide)
    generalize vl s1 6 = w at k2 m2 hw
    have e1 : (1 : Int32) + nI w = nI (1 + w) := by rw [k_1, nI_add]
    obtain ⟨t5, n5, s5, C5, R5, a1, a2, a3, a4, a5, a6⟩ := g_counted 1 (1 + w) (x := 1) rfl (by decide) (by omega) d2 u2 (by omega)
    refine ⟨_, _, _, C5, R5, by omega, by omega, a3, a4, ?_, ?_⟩
    · rw [k2, bd2_some, e1, a5]; rfl
    · rw [m2, bd2_some, e1, a6]; rfl
  · rw [if_neg (by decide), if_pos (by decide), if_neg (by decide), if_pos (by decide)]
    obtain ⟨C2, k2, d2⟩ := c_next d1 20 (x := 20) rfl (by decide) (by decide)
    obtain ⟨R2, m2, u2⟩ := r_draws u1 20 (x := 20) rfl (by decide) (by decide)
    have hw := vl_lt (sd := s1) (show 0 < 20 by decide)
    generalize vl s1 20 = w at k2 m2 hw
    obtain ⟨C3, k3, d3⟩ := c_next d2 256 (x := 256) rfl (by decide) (by decide)
    obtain ⟨C4, k4, d4⟩ := c_app3 d3 2 w (vl (nx s1) 256) (x := 2) rfl rfl rfl (by decide) (by omega) (vl_lt (by decide)) (by omega)
    obtain ⟨R3, m3, u3⟩ := r_lays u2 2 w (x := 2) rfl rfl (by decide) (by omega) (by omega)
    obtain ⟨R4, m4, u4⟩ := r_draws u3 256 (x := 256) rfl (by decide) (by decide)
    obtain ⟨R5, m5, u5⟩ := r_lay u4 (b := vl (nx s1) 256) (vl_lt (by decide)) (by omega)
    refine ⟨_, _, _, C4, R5, by omega, by omega, d4, u5, ?_, ?_⟩
    · rw [k2, bd2_some, k3, bd2_some, k4]; rfl
    · rw [m2, bd2_some, m3, Option.bind_some, m4, bd2_some, m5]; rfl
  · rw [if_neg (by decide), if_neg (by decide), if_pos (by decide), if_neg (by decide), if_neg (by decide), if_pos (by decide)]
    obtain ⟨C2, k2, d2⟩ := c_next d1 4 (x := 4) rfl (by decide) (by decide)
    obtain ⟨R2, m2, u2⟩ := r_draws u1 4 (x := 4) rfl (by decide) (by decide)
    have hw := vl_lt (sd := s1) (show 0 < 4 by decide)
    generalize vl s1 4 = w at k2 m2 hw
    have e1 : (1 : Int32) + nI w = nI (1 + w) := by rw [k_1, nI_add]
    obtain ⟨C3, k3, d3⟩ := c_next d2 12 (x := 12) rfl (by decide) (by decide)
    have hz := Nat.lt_trans (vl_lt (sd := nx s1) (show 0 < 12 by decide)) (show 12 < 256 by decide)
    obtain ⟨C4, k4, d4⟩ := c_app3 d3 3 (1 + w) (vl (nx s1) 12) (x := 3) rfl rfl rfl (by decide) (by omega) hz (by omega)
    obtain ⟨R3, m3, u3⟩ := r_lays u2 3 (1 + w) (x := 3) rfl rfl (by decide) (by omega) (by omega)
    obtain ⟨R4, m4, u4⟩ := r_draws u3 12 (x := 12) rfl (by decide) (by decide)
    obtain ⟨R5, m5, u5⟩ := r_lay u4 (b := vl (nx s1) 12) hz (by omega)
    refine ⟨_, _, _, C4, R5, by omega, by omega, d4, u5, ?_, ?_⟩
    · rw [k2, bd2_some, k3, bd2_some, e1, k4]; rfl
    · rw [m2, bd2_some, lt_e, e1, m3, Option.bind_some, m4, bd2_some, m5]; rfl
  · rw [if_neg (by decide), if_neg (by decide), if_neg (by decide), if_pos (by decide), if_neg (by decide), if_neg (by decide), if_neg (by decide), if_pos (by decide)]
    obtain ⟨C2, k2, d2⟩ := c_next d1 4 (x := 4) rfl (by decide) (by decide)
    obtain ⟨R2, m2, u2⟩ := r_draws u1 4 (x := 4) rfl (by decide) (by decide)
    have hw := vl_lt (sd := s1) (show 0 < 4 by decide)
    generalize vl s1 4 = w at k2 m2 hw
    obtain ⟨t5, n5, s5, C5, R5, a1, a2, a3, a4, a5, a6⟩ := g_counted 5 w (x := 5) rfl (by decide) (by omega) d2 u2 (by omega)
    refine ⟨_, _, _, C5, R5, by omega, by omega, a3, a4, ?_, ?_⟩
    · rw [k2, bd2_some, a5]; rfl
    · rw [m2, bd2_some, a6]; rfl
  · rw [if_neg (by decide), if_neg (by decide), if_neg (by decide), if_neg (by decide), if_pos (by decide), if_neg (by decide), if_neg (by decide), if_neg (by decide), if_neg (by decide), if_pos (by decide)]
    obtain ⟨t5, n5, s5, C5, R5, a1, a2, a3, a4, a5, a6⟩ := g_again i hi d1 u1 hn
    refine ⟨_, _, _, C5, R5, by omega, by omega, a3, a4, ?_, a6⟩
    rw [a5]; rfl
  · rw [if_neg (by decide), if_neg (by decide), if_neg (by decide), if_neg (by decide), if_neg (by decide), if_neg (by decide), if_neg (by decide), if_neg (by decide), if_neg (by decide), if_neg (by decide)]
    obtain ⟨t5, n5, s5, C5, R5, a1, a2, a3, a4, a5, a6⟩ := g_nest d1 u1 hn
    refine ⟨_, _, _, C5, R5, by omega, by omega, a3, a4, ?_, a6⟩
    rw [a5]; rfl
theorem g_items (e : Nat) (he : e ≤ 60) (hc : DC A t n sd Mc) (hr : DR B t n sd Mr) (hn : n + 13 * e ≤ 1200) : E2 A B n (n + 13 * e) (rX2_makeDrawn_b10 FU (nI e) 0 Mc) (rX7_family_b238 FU (nI e) 0 Mr) kEnd some := by
  refine g_loop (fun f x M => rX2_makeDrawn_b10 f (nI e) x M) (fun f x M => rX7_family_b238 f (nI e) x M) kEnd some 13 e (fun f M => ?_) (fun f M => ?_) (fun i f g t n sd Mc Mr hi hc hr hn => ?_) e 0 FU FU t n sd Mc Mr (Nat.zero_add _) (fuok (by omega)) (fuok (by omega)) hc hr hn
  · show rX2_makeDrawn_b10_s (rX2_makeDrawn_b10 f) (nI e) (nI e) M = _
    unfold rX2_makeDrawn_b10_s
    rw [if_pos (nI_le (Nat.le_refl _) (by omega))]; rfl
  · show rX7_family_b238_s (rX7_family_b238 f) (nI e) (nI e) M = _
    unfold rX7_family_b238_s
    rw [if_pos (nI_le (Nat.le_refl _) (by omega))]
  · obtain ⟨t5, n5, s5, C5, R5, a1, a2, a3, a4, a5, a6⟩ := g_item i (by omega) hc hr hn
    refine ⟨_, _, _, C5, R5, a1, a2, a3, a4, ?_, ?_⟩
    · show rX2_makeDrawn_b10_s (rX2_makeDrawn_b10 f) (nI e) (nI i) Mc = rX2_makeDrawn_b10 f (nI e) (nI (i + 1)) C5
      unfold rX2_makeDrawn_b10_s
      rw [if_neg (nI_ge hi (by omega)), a5, Option.bind_some, lt_e, nI_1]
    · show rX7_family_b238_s (rX7_family_b238 g) (nI e) (nI i) Mr = rX7_family_b238 g (nI e) (nI (i + 1)) R5
      unfold rX7_family_b238_s
      rw [if_neg (nI_ge hi (by omega)), a6, Option.bind_some, lt_e, nI_1]
end
