theorem cmp_lt (x y : Int64) : lg_cmp x y < 0 ↔ x < y := by
  unfold lg_cmp
  simp only [gt_iff_lt, Int64.lt_iff_toInt_lt, ← Int64.toInt_inj]
  by_cases h1 : y.toInt < x.toInt
  · rw [if_pos h1]; constructor
    · intro q; exact absurd q (by decide)
    · intro q; omega
  · rw [if_neg h1]
    by_cases h2 : x.toInt = y.toInt
    · rw [if_pos h2]; constructor
      · intro q; exact absurd q (by decide)
      · intro q; omega
    · rw [if_neg h2]; constructor
      · intro _; omega
      · intro _; decide
theorem cmp_gt (x y : Int64) : 0 < lg_cmp x y ↔ y < x := by
  unfold lg_cmp
  simp only [gt_iff_lt, Int64.lt_iff_toInt_lt, ← Int64.toInt_inj]
  by_cases h1 : y.toInt < x.toInt
  · rw [if_pos h1]; constructor
    · intro _; exact h1
    · intro _; decide
  · rw [if_neg h1]
    by_cases h2 : x.toInt = y.toInt
    · rw [if_pos h2]; constructor
      · intro q; exact absurd q (by decide)
      · intro q; omega
    · rw [if_neg h2]; constructor
      · intro q; exact absurd q (by decide)
      · intro q; omega
theorem r_in1 {a b c : Int64} {M : Mm} (h1 : ¬ a < b) (h2 : ¬ c < a) : rX7_in a b c M = some (1, M) := by
  unfold rX7_in
  rw [if_neg (fun q => h1 ((cmp_lt _ _).mp q)), if_neg (fun q => h2 ((cmp_gt _ _).mp q))]
  rfl
theorem r_in0 {a b c : Int64} {M : Mm} (h : a < b ∨ c < a) : rX7_in a b c M = some (0, M) := by
  unfold rX7_in
  by_cases h1 : a < b
  · rw [if_pos ((cmp_lt _ _).mpr h1)]; rfl
  · rw [if_neg (fun q => h1 ((cmp_lt _ _).mp q)), if_pos ((cmp_gt _ _).mpr (h.resolve_left h1))]; rfl
theorem kL_pos {ln : Nat → Nat} {m : Nat} (hl : ∀ k, k < m → ln k ≤ 7) (hgd : kS ln m = 128 ∨ (kU ln m = 1 ∧ kL ln m = 1)) : 0 < kL ln m := by
  rcases hgd with q | q
  · have h := kq_full hl q
    rcases Nat.eq_zero_or_pos (kL ln m) with h0 | h0
    · rw [h0] at h
      simp [kq, bs] at h
    · exact h0
  · omega
section
variable {t : Nat → Nat} {n mo sp d e : Nat} {M0 M : Mm} {out : List Nat} {p co fc : Nat} {fp : Int32} {ln sy : Nat → Nat} {m : Nat}
theorem lr_bits (B : Br t n mo sp d e M0) (hm : m ≤ 8) {s0 : Nat} (hs : s0 + m + m ≤ n) (hln : ∀ k, k < m → ln k = t (s0 + m + k)) (hsy : ∀ k, k < m → sy k = t (s0 + k)) (hl : ∀ k, k < m → ln k ≤ 7) (hgd : kS ln m = 128 ∨ (kU ln m = 1 ∧ kL ln m = 1)) : ∀ (r fuel i b : Nat) (M : Mm) (out : List Nat), r < fuel → i + r < 1000 → b ≤ 8 * e → RI M0 M out co 0 (-1) → RT ln m M → out.length + r ≤ 4000 →
    ∃ M', RI M0 M' (aBits t e m sy ln r b out).2.2.2 co (aBits t e m sy ln r b out).1 (if (aBits t e m sy ln r b out).1 = 0 then -1 else nI (aBits t e m sy ln r b out).2.1) ∧ rX7_bits_b10 fuel (nI d) (nI s0) (nI m) (nI (i + r)) (nI b) (nI i) M = if (aBits t e m sy ln r b out).1 = 0 then rX7_ends (nI d) (nI (((aBits t e m sy ln r b out).2.2.1 + 7) / 8)) M' else some M' := by
  obtain ⟨b1, b2, b3, b4, b5, b6, -⟩ := id B
  have hk7 := kL_le ln m hl
  have hk0 := kL_pos hl hgd
  intro r
  induction r with
  | zero =>
    intro fuel i b M out hf hi hb h hT ho
    obtain ⟨f, rfl⟩ : ∃ f, fuel = f + 1 := ⟨fuel - 1, by omega⟩
    have hu : rX7_bits_b10 (f + 1) (nI d) (nI s0) (nI m) (nI (i + 0)) (nI b) (nI i) M = rX7_bits_b232 FU (nI d) (nI b) (nI ((b + 7) / 8)) M := by
      show rX7_bits_b10_s (rX7_bits_b10 f) _ _ _ _ _ _ M = _
      unfold rX7_bits_b10_s
      have hdiv : nI (b + 7) / 8 = nI ((b + 7) / 8) := pk_div (by omega) (by decide) (by decide)
      rw [if_pos ((nI_leI (by omega) (by omega)).mpr (by omega)), k_7, nI_add, hdiv, lt_e]
    have hl8 := lr_left B h (8 * ((b + 7) / 8) - b) FU b (by unfold FU; omega) (by omega) (by omega) (by omega)
    rw [show (b + (8 * ((b + 7) / 8) - b)) / 8 = (b + 7) / 8 by omega] at hl8
    rw [hu, aBits]
    by_cases c1 : b % 8 ≠ 0 ∧ t (b / 8) % 2 ^ (8 - b % 8) ≠ 0
    · rw [if_pos c1]
      rw [show 8 * ((b + 7) / 8) - b = 8 - b % 8 by omega] at hl8
      obtain ⟨M', g1, g2⟩ := hl8.2 (by omega)
      exact ⟨M', g1, g2⟩
    · rw [if_neg c1]
      refine ⟨M, h, hl8.1 ?_⟩
      by_cases c2 : b % 8 = 0
      · exact Or.inr (by omega)
      · rw [show 8 * ((b + 7) / 8) - b = 8 - b % 8 by omega]
        exact Or.inl (by omega)
  | succ r ih =>
    intro fuel i b M out hf hi hb h hT ho
    obtain ⟨f, rfl⟩ : ∃ f, fuel = f + 1 := ⟨fuel - 1, by omega⟩
    have hu : rX7_bits_b10 (f + 1) (nI d) (nI s0) (nI m) (nI (i + (r + 1))) (nI b) (nI i) M = rX7_bits_b33 (rX7_bits_b10 f) FU (nI d) (nI s0) (nI m) (nI (i + (r + 1))) (nI b) (nI i) (nI 0) (nI (1 - 1)) (nI (b / 8)) 0 M := by
      show rX7_bits_b10_s (rX7_bits_b10 f) _ _ _ _ _ _ M = _
      unfold rX7_bits_b10_s
      have hdiv : nI b / 8 = nI (b / 8) := pk_div (by omega) (by decide) (by decide)
      rw [if_neg (by rw [nI_leI (by omega) (by omega)]; omega), hdiv, lt_e]
      rfl
    have hsym := lr_sym B hm hs hln hsy hl hgd (rX7_bits_b10 f) (nI d) (nI (i + (r + 1))) (nI i) (b / 8) (out := out) (co := co) (by omega) (kL ln m) FU 1 0 b M (by unfold FU; omega) (by omega) (by omega) (by decide) (by simp [kq, bs]) hb h hT
    have hsb := aSym_b (t := t) (e := e) (m := m) (sy := sy) (ln := ln) (kL ln m) 1 0 b
    rw [aBits]
    generalize hq : aSym t e m sy ln (kL ln m) 1 0 b = qq at hsym hsb ⊢
    obtain ⟨q1, q2, q3⟩ := qq
    dsimp only at hsym hsb
    obtain ⟨s1, s2⟩ := hsym
    by_cases c0 : q1 = 0
    · subst c0
      obtain ⟨M1, g1, g2, g3⟩ := s1 rfl
      obtain ⟨M2, g4, g5⟩ := ih f (i + 1) q3 M1 (out ++ [q2]) (by omega) (by omega) (hsb rfl).2 g1 g2 (by simp; omega)
      refine ⟨M2, g4, ?_⟩
      rw [hu, g3, k_1, nI_add, show i + (r + 1) = i + 1 + r by omega]
      exact g5
    · obtain ⟨M1, g1, g2, g3⟩ := s2 c0
      have hz := hu.trans (g3 hk0)
      rcases g2 with rfl | rfl
      · exact ⟨M1, g1, hz⟩
      · exact ⟨M1, g1, hz⟩
/-- the lengths, as the reference reads them -/
theorem lr_len (B : Br t n mo sp d e M0) (h : RI M0 M out co 0 (-1)) (hm : m ≤ 8) (at_ : Nat) (x2 : Int32) : ∀ (r fuel i : Nat), r < fuel → i + r = m → at_ + i ≤ e →
    (aLen t e at_ r i = none → ∃ g, rX7_coded_b63 fuel (nI d) x2 (nI m) (nI at_) (nI i) M = rX7_coded_b63 (g + 1) (nI d) x2 (nI m) (nI at_) (nI m) M ∧ at_ + m ≤ e ∧ ∀ k, i ≤ k → k < m → t (at_ + k) ≤ 7) ∧ (∀ q, aLen t e at_ r i = some q → RR M0 d (rX7_coded_b63 fuel (nI d) x2 (nI m) (nI at_) (nI i) M) (rf q.1 q.2 out co)) := by
  obtain ⟨b1, b2, b3, b4, b5, b6, -⟩ := id B
  intro r
  induction r with
  | zero =>
    intro fuel i hf hi hae
    obtain ⟨f, rfl⟩ : ∃ f, fuel = f + 1 := ⟨fuel - 1, by omega⟩
    have him : i = m := by omega
    subst him
    exact ⟨fun _ => ⟨f, rfl, hae, fun k a b => by omega⟩, fun q hq => (by cases hq)⟩
  | succ r ih =>
    intro fuel i hf hi hae
    obtain ⟨f, rfl⟩ : ∃ f, fuel = f + 1 := ⟨fuel - 1, by omega⟩
    have hu : rX7_coded_b63 (f + 1) (nI d) x2 (nI m) (nI at_) (nI i) M = rX7_coded_b63_s (rX7_coded_b63 f) (nI d) x2 (nI m) (nI at_) (nI i) M := rfl
    unfold rX7_coded_b63_s at hu
    rw [if_neg (by rw [nI_leI (by omega) (by omega)]; omega), nI_add] at hu
    rw [aLen]
    by_cases c1 : e ≤ at_ + i
    · rw [if_pos c1]
      refine ⟨fun q => (by cases q), fun q hq => ?_⟩
      cases hq
      obtain ⟨M1, e1, h1⟩ := rv_has0 B h (a := at_ + i) (k := 1) (by omega) (by omega)
      rw [hu, show rX7_has (nI (at_ + i)) 1 M = some (0, M1) from e1]
      exact RR.no (c := 3) h1 (by decide)
    rw [if_neg c1]
    have e1 := rv_has1 B h (a := at_ + i) (k := 1) (by omega)
    have tq := h.tp B (i := at_ + i) (by omega)
    have tb := b2 (at_ + i) (by omega)
    rw [show rX7_has (nI (at_ + i)) 1 M = some (1, M) from e1, bd2_some, if_neg (by decide), if_neg (nocl (by omega) (by decide)), nI_clamp (n := at_ + i) (by omega), tq] at hu
    by_cases c2 : 7 < t (at_ + i)
    · rw [if_pos c2]
      refine ⟨fun q => (by cases q), fun q hq => ?_⟩
      cases hq
      obtain ⟨f1, f2⟩ := h.fl 6 (nI (at_ + i))
      rw [hu, if_neg (by rw [k_7, nI_leI (by omega) (by omega)]; omega), k_6, f1]
      exact RR.no (c := 6) f2 (by decide)
    · rw [if_neg c2]
      rw [if_pos (by rw [k_7, nI_leI (by omega) (by omega)]; omega), lt_e, k_1, nI_add] at hu
      rw [hu]
      obtain ⟨i1, i2⟩ := ih f (i + 1) (by omega) (by omega) (by omega)
      refine ⟨fun q => ?_, i2⟩
      obtain ⟨g, g1, g2, g3⟩ := i1 q
      refine ⟨g, g1, g2, fun k a b => ?_⟩
      rcases Nat.eq_or_lt_of_le a with q1 | q1
      · rw [← q1]; omega
      · exact g3 k q1 b
theorem r_coded (B : Br t n mo sp d e M0) (h : RI M0 M out co 0 (-1)) (hpe : p < e) (ho : out.length ≤ mo) (hc : co ≤ sp) : RR M0 d (rX7_coded (nI d) (nI p) M) (aCoded t mo sp e p out co) := by
  obtain ⟨b1, b2, b3, b4, b5, b6, -⟩ := id B
  unfold aCoded rX7_coded
  by_cases c1 : e ≤ p + 1
  · rw [if_pos c1]
    obtain ⟨M1, e1, h1⟩ := rv_has0 B h (a := p) (k := 2) (by omega) (by omega)
    rw [show rX7_has (nI p) 2 M = some (0, M1) from e1, bd2_some]
    exact RR.no h1 (by decide)
  have e1 := rv_has1 B h (a := p) (k := 2) (by omega)
  have tq := h.tp B (i := p + 1) (by omega)
  have tb := b2 (p + 1) (by omega)
  rw [if_neg c1, show rX7_has (nI p) 2 M = some (1, M) from e1, bd2_some, if_neg (by decide), k_1, nI_add, if_neg (nocl (by omega) (by decide)), nI_clamp (by omega), tq, lt_e, nI_l (by omega)]
  by_cases c2 : t (p + 1) < 1 ∨ 8 < t (p + 1)
  · obtain ⟨f1, f2⟩ := h.fl 6 (nI (p + 1))
    rw [if_pos c2, r_in0 (a := lN (t (p + 1))) (b := 1) (c := 8) (c2.imp (fun q => (lN_lt (b := 1) (by omega) (by decide)).mpr q) (fun q => (lN_lt (a := 8) (by decide) (by omega)).mpr q)), bd2_some, if_pos rfl, k_6, f1]
    exact RR.no f2 (by decide)
  rw [if_neg c2, r_in1 (a := lN (t (p + 1))) (b := 1) (c := 8) (fun q => absurd ((lN_lt (b := 1) (by omega) (by decide)).mp q) (by omega)) (fun q => absurd ((lN_lt (a := 8) (by decide) (by omega)).mp q) (by omega)), bd2_some, if_neg (by decide), k_2, nI_add]
  obtain ⟨m, hm⟩ : ∃ m, m = t (p + 1) := ⟨_, rfl⟩
  rw [← hm]
  by_cases c3 : e < p + 2 + m
  · obtain ⟨M1, e2, h1⟩ := rv_has0 B h (a := p) (k := 2 + m) (by omega) (by omega)
    rw [if_pos c3, e2, bd2_some]
    exact RR.no h1 (by decide)
  have e2 := rv_has1 B h (a := p) (k := 2 + m) (by omega)
  rw [if_neg c3, e2, bd2_some, if_neg (by decide), nI_add, nI_add, lt_e]
  obtain ⟨l1, l2⟩ := lr_len B h (m := m) (by omega) (p + 2 + m) (nI p) m FU 0 (by unfold FU; omega) (by omega) (by omega)
  rw [show rX7_coded_b63 FU (nI d) (nI p) (nI m) (nI (p + 2 + m)) 0 M = rX7_coded_b63 FU (nI d) (nI p) (nI m) (nI (p + 2 + m)) (nI 0) M from rfl]
  cases hL : aLen t e (p + 2 + m) m 0 with
  | some q => exact l2 q hL
  | none =>
    obtain ⟨g, g1, g2, g3⟩ := l1 hL
    rw [g1]
    have hu : rX7_coded_b63 (g + 1) (nI d) (nI p) (nI m) (nI (p + 2 + m)) (nI m) M = rX7_coded_b63_s (rX7_coded_b63 g) (nI d) (nI p) (nI m) (nI (p + 2 + m)) (nI m) M := rfl
    unfold rX7_coded_b63_s at hu
    rw [if_pos ((nI_leI (by omega) (by omega)).mpr (by omega))] at hu
    have hl7 : ∀ k, k < m → (fun k => t (p + 2 + m + k)) k ≤ 7 := fun k hk => g3 k (by omega) hk
    obtain ⟨M1, d1, k1, k2, k3⟩ := r_codes (M := M) (ln := fun k => t (p + 2 + m + k)) (m := m) (at_ := p + 2 + m) (by omega) (by omega) hl7 (fun k hk => h.tp B (by omega))
    have h1 := h.tab d1
    rw [hu]
    dsimp only
    by_cases c4 : kS (fun k => t (p + 2 + m + k)) m = 128 ∨ (kU (fun k => t (p + 2 + m + k)) m = 1 ∧ kL (fun k => t (p + 2 + m + k)) m = 1)
    · rw [k2 c4, bd2_some, if_neg (by decide), if_neg (by rw [Classical.not_not]; exact c4), nI_add]
      by_cases c5 : e ≤ p + 2 + m + m
      · obtain ⟨M2, e3, h2⟩ := rv_has0 B h1 (a := p + 2 + m + m) (k := 1) (by omega) (by omega)
        rw [if_pos c5, show rX7_has (nI (p + 2 + m + m)) 1 M1 = some (0, M2) from e3, bd2_some]
        exact RR.no h2 (by decide)
      have e3 := rv_has1 B h1 (a := p + 2 + m + m) (k := 1) (by omega)
      have tq2 := h1.tp B (i := p + 2 + m + m) (by omega)
      have tb2 := b2 (p + 2 + m + m) (by omega)
      obtain ⟨M3, e4, h3⟩ := rv_pay B h1 p (3 + 2 * m + 2 * t (p + 2 + m + m)) (t (p + 2 + m + m)) (by omega) (by omega) (by omega) (by omega)
      rw [if_neg c5, show rX7_has (nI (p + 2 + m + m)) 1 M1 = some (1, M1) from e3, bd2_some, if_neg (by decide), nI_clamp (n := p + 2 + m + m) (by omega)]
      have ng : ¬ (nI (p + 2 + m + m) < 0 ∨ 1200 ≤ p + 2 + m + m) := fun q => q.elim (nI_pos (by omega)) (by omega)
      rw [if_neg ng, if_neg ng, tq2, k_3, k_2, nI_mul, nI_mul, nI_add, nI_add, e4, bd2_some]
      by_cases c6 : aPay mo sp out.length co (t (p + 2 + m + m)) (3 + 2 * m + 2 * t (p + 2 + m + m)) = 0
      · simp only [c6, if_true] at h3 ⊢
        obtain ⟨w1, w2⟩ := aPay_cap c6
        have tq3 := h3.tp B (i := p + 2 + m + m) (by omega)
        have hT3 : RT (fun k => t (p + 2 + m + k)) m M3 := by
          intro k hk hk1
          have : M3.1 47 = M1.1 47 := by
            unfold rX7_pays rX7_pays_b56 at e4
            have hq : ∀ {x : Mm} {r : Int32}, (if x.1 31 8 = 0 then (if ¬ (1 : Int32) &&& 1 = 1 then none else some ((1 : Int32), x)) else (if ¬ (0 : Int32) &&& 1 = 0 then none else some ((0 : Int32), x))) = some (r, M3) → M3 = x := by
              intro x r hx
              split at hx
              · cases hx; rfl
              · cases hx; rfl
            split at e4
            · split at e4
              · rw [lt_e] at e4
                rw [hq e4, st_ne (by decide)]
              · obtain ⟨M9, e9, e4⟩ := ob_bind e4
                rw [hq e4]
                cases e9
                rw [st_ne (by decide), st_ne (by decide)]
            · obtain ⟨M9, e9, e4⟩ := ob_bind e4
              rw [hq e4]
              cases e9
              rw [st_ne (by decide), st_ne (by decide)]
          rw [this]
          exact k1 k hk hk1
        obtain ⟨M4, j1, j2⟩ := lr_bits B (m := m) (ln := fun k => t (p + 2 + m + k)) (sy := fun k => t (p + 2 + k)) (s0 := p + 2) (by omega) (by omega) (fun k _ => rfl) (fun k _ => rfl) hl7 c4 (t (p + 2 + m + m)) FU 0 (8 * (p + 2 + m + m + 1)) M3 out (by unfold FU; omega) (by omega) (by omega) h3 hT3 (by omega)
        rw [Nat.zero_add] at j2
        rw [if_neg (by decide), if_neg ng, tq3, nI_add, k_1, nI_add, bind_id]
        unfold rX7_bits
        rw [lt_e, show (8 : Int32) = nI 8 from rfl, nI_mul, show (0 : Int32) = nI 0 from rfl, j2]
        generalize hR : aBits t e m (fun k => t (p + 2 + k)) (fun k => t (p + 2 + m + k)) (t (p + 2 + m + m)) (8 * (p + 2 + m + m + 1)) out = R at j1 ⊢
        by_cases c7 : R.1 = 0
        · rw [if_pos c7, if_pos c7]
          rw [if_pos c7, c7] at j1
          exact ⟨M4, j1, rfl⟩
        · rw [if_neg c7, if_neg c7]
          rw [if_neg c7] at j1
          exact ⟨M4, j1, (if_neg c7).symm⟩
      · simp only [c6, if_false] at h3 ⊢
        exact RR.no h3 c6
    · obtain ⟨f1, f2⟩ := h1.fl 6 (nI (p + 2 + m))
      rw [k3 c4, bd2_some, if_pos rfl, if_pos c4, k_6, f1]
      exact RR.no f2 (by decide)
end
