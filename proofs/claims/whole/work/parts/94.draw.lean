section
variable {A B : Mm} {t : Nat → Nat} {n : Nat} {sd : Int64} {Mc Mr : Mm}
theorem fin_c (hc : DC A t n sd Mc) (hn : n + 2 ≤ 1200) : ∃ N, kEnd Mc = some N ∧ DC A (en t n 0) (n + 2) sd N := by
  obtain ⟨C1, k1, d1⟩ := c_end hc 0 (x := 0) rfl (by omega) hn
  refine ⟨C1, ?_, d1⟩
  unfold kEnd
  rw [k1]; rfl
theorem fin_r {x : Int32} (h7 : x ≠ 7) (h8 : x ≠ 8) (hr : DR B t n sd Mr) (hn : n + 2 ≤ 1200) : ∃ N, rX7_draw_b100 x Mr = some (nI (n + 2), N) ∧ DR B (en t n 0) (n + 2) sd N := by
  obtain ⟨R1, m1, u1⟩ := r_close hr 0 (x := 0) rfl (by omega) hn
  refine ⟨R1, ?_, u1⟩
  unfold rX7_draw_b100
  rw [m1, Option.bind_some, if_neg h7]
  unfold rX7_draw_b127
  rw [if_neg h8, u1.1.2.2.1]
def rcore (x : Int32) (e : Nat) (M9 : Mm) : Option (Int32 × Mm) := if x = 3 then (Option.bind (rX7_deep (nI e) M9) fun M37 => some (M37.1 31 2, M37)) else (Option.bind (rX7_lays 80 75 M9) fun M12 => if x = 0 then (Option.bind (rX7_lays 1 255 M12) fun M28 => rX7_draw_b69 FU x (nI e) 0 M28) else (Option.bind (rX7_family x (nI e) M12) fun M15 => rX7_draw_b100 x M15))
theorem rcore_f {x : Int32} {e : Nat} {M9 R : Mm} (h3 : x ≠ 3) (h0 : x ≠ 0) (h : (Option.bind (rX7_lays 80 75 M9) fun M12 => rX7_family x (nI e) M12) = some R) : rcore x e M9 = rX7_draw_b100 x R := by
  have e1 : rcore x e M9 = Option.bind (Option.bind (rX7_lays 80 75 M9) fun M12 => rX7_family x (nI e) M12) fun M15 => rX7_draw_b100 x M15 := by
    unfold rcore
    simp only [if_neg h3, if_neg h0]
    cases rX7_lays 80 75 M9 <;> rfl
  rw [e1, h, Option.bind_some]
/-- what a draw comes to -/
def D2 (A B : Mm) (fc : Option Mm) (fr : Option (Int32 × Mm)) : Prop := ∃ t n sd Mc Mr, fc = some Mc ∧ fr = some (nI n, Mr) ∧ DC A t n sd Mc ∧ DR B t n sd Mr
theorem d2_end {fc : Option Mm} {fr : Option (Int32 × Mm)} {x : Int32} (h7 : x ≠ 7) (h8 : x ≠ 8) (h : E2 A B 2 1100 fc fr kEnd (rX7_draw_b100 x)) : D2 A B (Option.bind fc fun M5 => some M5) fr := by
  obtain ⟨t9, n9, s9, C9, R9, a1, a2, a3, a4, a5, a6⟩ := h
  obtain ⟨C1, k1, d1⟩ := fin_c a3 (by omega)
  obtain ⟨R1, m1, u1⟩ := fin_r h7 h8 a4 (by omega)
  exact ⟨_, _, _, C1, R1, by rw [a5, k1]; rfl, by rw [a6, m1], d1, u1⟩
theorem e2_f {fc : Option Mm} {x : Int32} {e : Nat} (h3 : x ≠ 3) (h0 : x ≠ 0) (h : E2 A B 2 1100 fc (Option.bind (rX7_lays 80 75 Mr) fun M12 => rX7_family x (nI e) M12) kEnd some) : E2 A B 2 1100 fc (rcore x e Mr) kEnd (rX7_draw_b100 x) := by
  obtain ⟨t9, n9, s9, C9, R9, a1, a2, a3, a4, a5, a6⟩ := h
  exact ⟨t9, n9, s9, C9, R9, a1, a2, a3, a4, a5, rcore_f h3 h0 a6⟩
theorem d2_cut {fc : Option Mm} {fr : Option (Int32 × Mm)} (h : E2 A B 2 1100 fc fr kEnd (rX7_draw_b100 7)) : D2 A B (Option.bind fc fun M26 => Option.bind (rX2_cutEnd M26) fun M28 => some M28) fr := by
  obtain ⟨t9, n9, s9, C9, R9, a1, a2, a3, a4, a5, a6⟩ := h
  obtain ⟨C1, k1, d1⟩ := fin_c a3 (by omega)
  obtain ⟨R1, m1, u1⟩ := r_close a4 0 (x := 0) rfl (by omega) (by omega)
  obtain ⟨C2, k2, d2⟩ := c_next d1 4 (x := 4) rfl (by decide) (by decide)
  obtain ⟨R2, m2, u2⟩ := r_draws u1 4 (x := 4) rfl (by decide) (by decide)
  have hw := vl_lt (sd := s9) (show 0 < 4 by decide)
  generalize vl s9 4 = w at k2 m2 hw
  have e1 : (1 : Int32) + nI w = nI (1 + w) := by rw [k_1, nI_add]
  obtain ⟨C3, k3, d3⟩ := c_keep d2 (j := n9 + 2 - (1 + w)) (by omega)
  have u3 := r_size u2 (j := n9 + 2 - (1 + w)) (by omega)
  refine ⟨_, _, _, C3, _, ?_, ?_, d3, u3⟩
  · rw [a5, k1, Option.bind_some]
    unfold rX2_cutEnd
    rw [k2, bd2_some, lt_e, e1, d2.1.2.2.1, pk_sub (by omega), k3]; rfl
  · rw [a6]
    unfold rX7_draw_b100
    rw [m1, Option.bind_some, if_pos rfl, m2, bd2_some, e1, u1.1.2.2.1, pk_sub (by omega), lt_e]
    unfold rX7_draw_b127
    rw [if_neg (by decide), u3.1.2.2.1]
theorem d2_spoil {fc : Option Mm} {fr : Option (Int32 × Mm)} (h : E2 A B 2 1100 fc fr kEnd (rX7_draw_b100 8)) : D2 A B (Option.bind fc fun M31 => Option.bind (rX2_spoilCheck M31) fun M33 => some M33) fr := by
  obtain ⟨t9, n9, s9, C9, R9, a1, a2, a3, a4, a5, a6⟩ := h
  obtain ⟨C1, k1, d1⟩ := fin_c a3 (by omega)
  obtain ⟨R1, m1, u1⟩ := r_close a4 0 (x := 0) rfl (by omega) (by omega)
  generalize en t9 n9 0 = tt at d1 u1
  have hp : nI (n9 + 2) - 1 = nI (n9 + 1) := nI_pred (n9 + 1)
  have hb := d1.1.2.1 (n9 + 1) (by omega)
  have e1 : (nI (tt (n9 + 1)) + 1) &&& 255 = nI ((tt (n9 + 1) + 1) % 256) := by
    rw [nI_1]
    exact pk_andN (by omega) 8 (by decide)
  obtain ⟨C2, k2, d2⟩ := c_put d1 (i := n9 + 1) (b := (tt (n9 + 1) + 1) % 256) (by omega) (Nat.mod_lt _ (by decide))
  have u2 := r_put u1 (i := n9 + 1) (b := (tt (n9 + 1) + 1) % 256) (by omega) (Nat.mod_lt _ (by decide))
  refine ⟨_, _, _, C2, _, ?_, ?_, d2, u2⟩
  · rw [a5, k1, Option.bind_some]
    unfold rX2_spoilCheck
    rw [d1.1.2.2.1, lt_e, hp, c_get d1 (by omega), bd2_some, e1, k2]; rfl
  · rw [a6]
    unfold rX7_draw_b100
    rw [m1, Option.bind_some, if_neg (by decide)]
    unfold rX7_draw_b127
    rw [if_pos rfl, u1.1.2.2.1, hp, if_neg (nocl (by omega) (by decide)), if_neg (nocl (by omega) (by decide)), nI_clamp (by omega), lt_e, u1.1.2.2.2 (n9 + 1) (by omega), e1, u2.1.2.2.1]
theorem g_make (f e : Nat) (hf : f ≤ 9) (he : e ≤ 60) (hc : DC A t n sd Mc) (hr : DR B t n sd Mr) : D2 A B (rX2_make (nI f) (nI e) Mc) (rcore (nI f) e (st Mr 31 2 0)) := by
  obtain ⟨C0, k0, d0⟩ := c_keep hc (j := 0) (by omega)
  have u0 : DR B t 0 sd (st Mr 31 2 0) := r_size hr (j := 0) (by omega)
  have k0' : rX0_keepFirst 1 1200 1200 0 Mc = some C0 := k0
  unfold rX2_make
  rw [k0', Option.bind_some]
  obtain rfl | rfl | rfl | rfl | rfl | rfl | rfl | rfl | rfl | rfl : f = 0 ∨ f = 1 ∨ f = 2 ∨ f = 3 ∨ f = 4 ∨ f = 5 ∨ f = 6 ∨ f = 7 ∨ f = 8 ∨ f = 9 := by omega
  · rw [if_pos (by decide)]
    exact d2_end (x := 0) (by decide) (by decide) (g_f0 e he d0 u0)
  · rw [if_neg (by decide), if_pos (by decide)]
    exact d2_end (x := 1) (by decide) (by decide) (e2_f (by decide) (by decide) (g_f1 e he d0 u0))
  · rw [if_neg (by decide), if_neg (by decide), if_pos (by decide)]
    exact d2_end (x := 2) (by decide) (by decide) (e2_f (by decide) (by decide) (g_f2 e he d0 u0))
  · rw [if_neg (by decide), if_neg (by decide), if_neg (by decide), if_pos (by decide)]
    obtain ⟨t9, n9, s9, C9, R9, a1, a2, a3, a4, a5, a6⟩ := g_deep e he d0 u0
    refine ⟨t9, n9, s9, C9, R9, by rw [a5]; rfl, ?_, a3, a4⟩
    unfold rcore
    rw [if_pos (by decide), a6, Option.bind_some, a4.1.2.2.1]
  · rw [if_neg (by decide), if_neg (by decide), if_neg (by decide), if_neg (by decide), if_pos (by decide)]
    exact d2_end (x := 4) (by decide) (by decide) (e2_f (by decide) (by decide) (g_f4 e he d0 u0))
  · rw [if_neg (by decide), if_neg (by decide), if_neg (by decide), if_neg (by decide), if_neg (by decide), if_pos (by decide)]
    exact d2_end (x := 5) (by decide) (by decide) (e2_f (by decide) (by decide) (g_f5 e he d0 u0))
  · rw [if_neg (by decide), if_neg (by decide), if_neg (by decide), if_neg (by decide), if_neg (by decide), if_neg (by decide), if_pos (by decide)]
    exact d2_end (x := 6) (by decide) (by decide) (e2_f (by decide) (by decide) (g_f6 e he d0 u0))
  · rw [if_neg (by decide), if_neg (by decide), if_neg (by decide), if_neg (by decide), if_neg (by decide), if_neg (by decide), if_neg (by decide), if_pos (by decide)]
    exact d2_cut (e2_f (by decide) (by decide) (g_f9 e he (x := 7) (by decide) (by decide) (by decide) (by decide) (by decide) d0 u0))
  · rw [if_neg (by decide), if_neg (by decide), if_neg (by decide), if_neg (by decide), if_neg (by decide), if_neg (by decide), if_neg (by decide), if_neg (by decide), if_pos (by decide)]
    exact d2_spoil (e2_f (by decide) (by decide) (g_f9 e he (x := 8) (by decide) (by decide) (by decide) (by decide) (by decide) d0 u0))
  · rw [if_neg (by decide), if_neg (by decide), if_neg (by decide), if_neg (by decide), if_neg (by decide), if_neg (by decide), if_neg (by decide), if_neg (by decide), if_neg (by decide)]
    exact d2_end (x := 9) (by decide) (by decide) (e2_f (by decide) (by decide) (g_f9 e he (x := 9) (by decide) (by decide) (by decide) (by decide) (by decide) d0 u0))
end
theorem lit_lt (N : Nat) (hN : N < 2 ^ 30) (x : Int32) (h : nI (N + 1) ≤ x) : nI N < x := by
  rw [Int32.lt_iff_toInt_lt, nI_toInt (by omega)]
  rw [Int32.le_iff_toInt_le, nI_toInt (by omega)] at h
  omega
theorem lt_nle {x y : Int32} (h : y < x) : ¬ x ≤ y := by
  rw [Int32.le_iff_toInt_le]
  rw [Int32.lt_iff_toInt_lt] at h
  omega
theorem s_draw {Mc Mr : Mm} (h : JJ Mc Mr) (a b : Int32) : Step2 (rX6_draw a b) (rX7_draw a b) Mc Mr := by
  obtain ⟨t, n, sd, r, rd, hc, hr, h1⟩ := id h
  have c9 : ((9 : Int32)).toInt64 = (9 : Int64) := by decide
  have c60 : ((60 : Int32)).toInt64 = (60 : Int64) := by decide
  rcases pk_ix a (n := 10) (by decide) with q | q | ⟨f, hf, q⟩
  · refine ⟨-2, Mc, Mr, ?_, ?_, h⟩
    · unfold rX6_draw; rw [if_pos q]
    · unfold rX7_draw; rw [in_neg q (by decide)]; rfl
  · have q' : (9 : Int32) < a := lit_lt 9 (by decide) a q
    refine ⟨-2, Mc, Mr, ?_, ?_, h⟩
    · unfold rX6_draw; rw [if_pos q', ite_self]
    · unfold rX7_draw; rw [← c9, in_big q']; rfl
  have n0 : ¬ a < 0 := by rw [q]; exact nI_pos (by omega)
  have m0 : ¬ (9 : Int32) < a := by rw [q]; exact nI_nlt (a := 9) (b := f) (by omega) (by omega)
  rcases pk_ix b (n := 61) (by decide) with w | w | ⟨e, he, w⟩
  · refine ⟨-2, Mc, Mr, ?_, ?_, h⟩
    · unfold rX6_draw; rw [if_neg n0, if_neg m0, if_pos w]
    · unfold rX7_draw; rw [← c9, in_ok n0 m0, bd2_some, if_neg (by decide), in_neg w (by decide)]; rfl
  · have w' : (60 : Int32) < b := lit_lt 60 (by decide) b w
    refine ⟨-2, Mc, Mr, ?_, ?_, h⟩
    · unfold rX6_draw; rw [if_neg n0, if_neg m0, if_neg (lt_nle w'), ite_self]
    · unfold rX7_draw; rw [← c9, ← c60, in_ok n0 m0, bd2_some, if_neg (by decide), in_big w']; rfl
  have n1 : ¬ b < 0 := by rw [w]; exact nI_pos (by omega)
  have m1 : ¬ (60 : Int32) < b := by rw [w]; exact nI_nlt (a := 60) (b := e) (by omega) (by omega)
  have m2 : b ≤ (60 : Int32) := by rw [w]; exact nI_le (a := e) (b := 60) (by omega) (by decide)
  obtain ⟨t9, n9, s9, C9, R9, e1, e2, a3, a4⟩ := g_make f e (by omega) (by omega) hc.dc hr.dr
  rw [← q] at e1 e2
  rw [← w] at e1
  refine ⟨nI n9, C9, R9, ?_, ?_, t9, n9, s9, r, rd, hc.to a3, hr.to a4, h1⟩
  · unfold rX6_draw; rw [if_neg n0, if_neg m0, if_neg n1, if_pos m2, e1, Option.bind_some, a3.1.2.2.1]
  · unfold rX7_draw
    rw [← c9, ← c60, in_ok n0 m0, bd2_some, if_neg (by decide), in_ok n1 m1, bd2_some, if_neg (by decide), lt_e, w]
    exact e2
