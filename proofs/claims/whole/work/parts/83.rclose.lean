theorem lp_sum {t : Nat → Nat} {n : Nat} {M : Mm} (hn : n ≤ 1200) (hb : ∀ i, i < n → t i < 256) (h2 : ∀ i, i < n → M.1 32 i = nI (t i)) (fr : Nat) : ∀ (r fuel k : Nat), r < fuel → fr + k + r ≤ n → rX7_sumOf_b5 fuel (nI (fr + k + r)) (nI (sm t fr k)) (nI (fr + k)) M = some (nI (sm t fr (k + r) % 256), M) := by
  intro r
  induction r with
  | zero =>
    intro fuel k hf hk
    obtain ⟨f, rfl⟩ : ∃ f, fuel = f + 1 := ⟨fuel - 1, by omega⟩
    have := sm_le (t := t) (a := fr) k (fun i hi => hb _ (by omega))
    show rX7_sumOf_b5_s (rX7_sumOf_b5 f) _ _ _ M = _
    unfold rX7_sumOf_b5_s
    rw [if_pos ((nI_leI (by omega) (by omega)).mpr (by omega)), show (255 : Int32) = nI 255 from rfl, pk_andN (k := 8) (by omega) (by decide)]
    rfl
  | succ r ih =>
    intro fuel k hf hk
    obtain ⟨f, rfl⟩ : ∃ f, fuel = f + 1 := ⟨fuel - 1, by omega⟩
    have e1 := ih f (k + 1) (by omega) (by omega)
    rw [show fr + (k + 1) + r = fr + k + (r + 1) by omega, show k + 1 + r = k + (r + 1) by omega, show fr + (k + 1) = fr + k + 1 by omega, sm] at e1
    have h2k := h2 (fr + k) (by omega)
    show rX7_sumOf_b5_s (rX7_sumOf_b5 f) _ _ _ M = _
    unfold rX7_sumOf_b5_s
    rw [if_neg (by rw [nI_leI (by omega) (by omega)]; omega), if_neg (nocl (a := fr + k) (by omega) (by decide)), nI_clamp (by omega), h2k, lt_e, lt_e, nI_add, k_1, nI_add]
    exact e1
theorem r_sum {t : Nat → Nat} {n : Nat} {M : Mm} (hn : n ≤ 1200) (hb : ∀ i, i < n → t i < 256) (h2 : ∀ i, i < n → M.1 32 i = nI (t i)) {fr q : Nat} (hq : fr ≤ q) (hqn : q ≤ n) : rX7_sumOf (nI fr) (nI q) M = some (nI (sm t fr (q - fr) % 256), M) := by
  have e1 := lp_sum hn hb h2 fr (q - fr) FU 0 (by unfold FU; omega) (by omega)
  rw [Nat.add_zero, Nat.zero_add, show fr + (q - fr) = q by omega] at e1
  exact e1
section
variable {t : Nat → Nat} {n mo sp dp d fr e oa p : Nat} {ends : List Nat} {g : Gs} {rc : Rc} {M A : Mm}
/-- the check of a PACK -/
def ckr (t : Nat → Nat) (fr e p : Nat) : Nat × Int32 := if e ≤ p + 1 then (3, nI e) else if t (p + 1) ≠ sm t fr (p + 1 - fr) % 256 then (9, nI (p + 1)) else if p + 2 < e then (10, nI (p + 2)) else (0, -1)
theorem r_closes (BB : Br t n mo sp d e A) (hG : RG A g 0 (-1)) (hP : RPk d fr e oa ends p A) (hpe : p < e) (hfr : fr ≤ p) : ((ckr t fr e p).1 ≠ 0 → ∃ M', rX7_closes (nI d) (nI p) A = some M' ∧ RI A M' g.1 g.2.1 (ckr t fr e p).1 (ckr t fr e p).2) ∧ ((ckr t fr e p).1 = 0 → p + 2 = e ∧ rX7_closes (nI d) (nI p) A = if d = 0 then some (st A 31 14 (nI d)) else rX7_ends (nI (d - 1)) (nI e) (st A 31 14 (nI d))) := by
  obtain ⟨b1, b2, b3, b4, b5, b6, b7, b8, b9, b10, b11⟩ := id BB
  have hR := hG.ri
  unfold ckr
  by_cases c1 : e ≤ p + 1
  · obtain ⟨M1, e1, h1⟩ := rv_has0 BB hR (a := p) (k := 2) (by omega) (by omega)
    rw [if_pos c1]
    refine ⟨fun _ => ⟨M1, ?_, h1⟩, fun q => (by cases q)⟩
    unfold rX7_closes
    rw [show rX7_has (nI p) 2 A = some (0, M1) from e1]
    rfl
  have e1 := rv_has1 BB hR (a := p) (k := 2) (by omega)
  have ng : ¬ (nI d < 0 ∨ 10 ≤ d) := fun q => q.elim (nI_pos (by omega)) (by omega)
  have tb := b2 (p + 1) (by omega)
  have hs := sm_le (t := t) (a := fr) (p + 1 - fr) (fun i hi => b2 _ (by omega))
  have hm8 : sm t fr (p + 1 - fr) % 256 < 256 := Nat.mod_lt _ (by decide)
  have hu : rX7_closes (nI d) (nI p) A = rX7_closes (nI d) (nI p) A := rfl
  conv at hu =>
    rhs
    unfold rX7_closes
  rw [show rX7_has (nI p) 2 A = some (1, A) from e1, bd2_some, if_neg (show ¬ (1 : Int32) = 0 by decide), show nI p + 1 = nI (p + 1) from by rw [k_1, nI_add], if_neg (nocl (a := p + 1) (by omega) (by decide)), nI_clamp (n := d) (by omega), if_neg ng, hP.1, r_sum b1 b2 b7 (fr := fr) (q := p + 1) (by omega) (by omega), bd2_some, nI_clamp (n := p + 1) (by omega), b7 (p + 1) (by omega)] at hu
  rw [if_neg c1]
  by_cases c2 : t (p + 1) = sm t fr (p + 1 - fr) % 256
  · rw [if_neg (fun q => q c2)]
    rw [if_pos (by rw [c2]), if_neg ng, b11, show nI p + 2 = nI (p + 2) from by rw [k_2, nI_add]] at hu
    by_cases c3 : p + 2 < e
    · obtain ⟨f1, f2⟩ := hR.fl 10 (nI (p + 2))
      rw [if_pos c3]
      rw [if_neg (by rw [nI_leI (by omega) (by omega)]; omega), k_10, f1] at hu
      exact ⟨fun _ => ⟨_, hu, f2⟩, fun q => (by cases q)⟩
    · rw [if_neg c3]
      refine ⟨fun q => absurd rfl q, fun _ => ⟨by omega, ?_⟩⟩
      rw [if_pos ((nI_leI (by omega) (by omega)).mpr (by omega)), b10, show nI (d + 1) - 1 = nI d from by rw [k_1, pk_sub (by omega), Nat.add_sub_cancel], lt_e, st_eq, upd_s] at hu
      rw [hu]
      by_cases h0 : d = 0
      · subst h0
        rw [if_pos (by decide), if_pos rfl]
      · rw [if_neg (by rw [k_0, nI_leI (by omega) (by omega)]; omega), if_neg h0, k_1, pk_sub (by omega), bind_id, show p + 2 = e by omega]
  · obtain ⟨f1, f2⟩ := hR.fl 9 (nI (p + 1))
    rw [if_pos c2]
    rw [if_neg (by rw [nI_eq (by omega) (by omega)]; exact c2), k_9, f1] at hu
    exact ⟨fun _ => ⟨_, hu, f2⟩, fun q => (by cases q)⟩
/-- a NEST in the reference: a fault, or its PACK begins -/
theorem r_nest (nest : Nat → Nat → Nat → Gs → Pr) (BB : Br t n mo sp d e A) (h7 : A.1 31 7 = nI dp) (hdp : dp ≤ 8) (hG : RG A g 0 (-1)) (hpe : p < e) (hg : OkG mo sp g g) :
    (∃ M' c w, c ≠ 0 ∧ rX7_nest (nI p) A = some M' ∧ RI A M' g.1 g.2.1 c w ∧ aNest nest t sp dp e d p g = (c, w, 0, g)) ∨
    (∃ w, p + 3 + w ≤ e ∧ d + 1 ≤ dp ∧ g.2.1 + 3 ≤ sp ∧ rX7_nest (nI p) A = rX7_begins (nI (p + 3)) (nI (p + 3 + w)) (st A 31 10 (nI (g.2.1 + 3))) ∧ aNest nest t sp dp e d p g = ((nest (p + 3) (p + 3 + w) (d + 1) (g.1, g.2.1 + 3, g.2.2.1, g.2.2.2)).1, (nest (p + 3) (p + 3 + w) (d + 1) (g.1, g.2.1 + 3, g.2.2.1, g.2.2.2)).2.1, p + 3 + w, (nest (p + 3) (p + 3 + w) (d + 1) (g.1, g.2.1 + 3, g.2.2.1, g.2.2.2)).2.2.2.1)) := by
  obtain ⟨b1, b2, b3, b4, b5, b6, b7, b8, b9, b10, b11⟩ := id BB
  have hR := hG.ri
  have hc := hg.2.2.2.1
  unfold aNest
  by_cases c1 : e ≤ p + 2
  · obtain ⟨M1, e1, h1⟩ := rv_has0 BB hR (a := p) (k := 3) (by omega) (by omega)
    rw [if_pos c1]
    refine Or.inl ⟨M1, 3, nI e, by decide, ?_, h1, rfl⟩
    unfold rX7_nest
    rw [show rX7_has (nI p) 3 A = some (0, M1) from e1]
    rfl
  have e1 := rv_has1 BB hR (a := p) (k := 3) (by omega)
  have tb := b2 (p + 1) (by omega)
  have tb2 := b2 (p + 2) (by omega)
  have hu : rX7_nest (nI p) A = rX7_nest (nI p) A := rfl
  conv at hu =>
    rhs
    unfold rX7_nest
  rw [show rX7_has (nI p) 3 A = some (1, A) from e1, bd2_some, if_neg (show ¬ (1 : Int32) = 0 by decide), show nI p + 1 = nI (p + 1) from by rw [k_1, nI_add], if_neg (nocl (a := p + 1) (by omega) (by decide)), show nI p + 2 = nI (p + 2) from by rw [k_2, nI_add], if_neg (nocl (a := p + 2) (by omega) (by decide)), nI_clamp (n := p + 1) (by omega), nI_clamp (n := p + 2) (by omega), b7 (p + 1) (by omega), b7 (p + 2) (by omega), k_256, nI_mul, nI_add, lt_e] at hu
  obtain ⟨w, hw⟩ : ∃ w, w = 256 * t (p + 1) + t (p + 2) := ⟨_, rfl⟩
  rw [← hw, show (3 : Int32) + nI w = nI (3 + w) from by rw [k_3, nI_add]] at hu
  rw [if_neg c1, ← hw]
  by_cases c2 : e < p + 3 + w
  · obtain ⟨M1, e2, h1⟩ := rv_has0 BB hR (a := p) (k := 3 + w) (by omega) (by omega)
    rw [if_pos c2]
    rw [e2] at hu
    exact Or.inl ⟨M1, 3, nI e, by decide, hu, h1, rfl⟩
  have e2 := rv_has1 BB hR (a := p) (k := 3 + w) (by omega)
  rw [e2, bd2_some, if_neg (show ¬ (1 : Int32) = 0 by decide), hG.2.2.1, b9, b10, h7, show nI g.2.1 + 3 = nI (g.2.1 + 3) from by rw [k_3, nI_add], show nI p + 3 = nI (p + 3) from by rw [k_3, nI_add], nI_add] at hu
  rw [if_neg c2]
  by_cases c3 : sp < g.2.1 + 3
  · obtain ⟨f1, f2⟩ := hR.fl 12 (nI p)
    rw [if_pos c3]
    rw [if_neg (by rw [nI_leI (by omega) (by omega)]; omega), k_12, f1] at hu
    exact Or.inl ⟨_, 12, nI p, by decide, hu, f2, rfl⟩
  rw [if_pos ((nI_leI (by omega) (by omega)).mpr (by omega))] at hu
  rw [if_neg c3]
  by_cases c4 : dp < d + 1
  · obtain ⟨f1, f2⟩ := hR.fl 13 (nI p)
    rw [if_pos c4]
    rw [if_neg (by rw [nI_leI (by omega) (by omega)]; omega), k_13, f1] at hu
    exact Or.inl ⟨_, 13, nI p, by decide, hu, f2, rfl⟩
  rw [if_pos ((nI_leI (by omega) (by omega)).mpr (by omega)), lt_e, bind_id] at hu
  rw [if_neg c4]
  exact Or.inr ⟨w, by omega, by omega, by omega, hu, rfl⟩
theorem L_stop {f fc : Nat} (h : M.1 31 8 = nI fc) (h0 : fc ≠ 0) (h1 : fc < 100) : rX7_reads_b76 (f + 1) M = some M := by
  show rX7_reads_b76_s (rX7_reads_b76 f) M = _
  unfold rX7_reads_b76_s
  rw [h, if_neg (nI_ne0 (by omega) (by omega))]
theorem L_step {f : Nat} (h : M.1 31 8 = nI 0) (ht : M.1 31 14 = nI (d + 1)) (hd : d ≤ 9) : rX7_reads_b76 (f + 1) M = Option.bind (rX7_item M) (rX7_reads_b76 f) := by
  show rX7_reads_b76_s (rX7_reads_b76 f) M = _
  unfold rX7_reads_b76_s
  rw [h, if_pos (show nI 0 = 0 from rfl), ht, if_neg (by rw [k_0, nI_leI (by omega) (by omega)]; omega)]
theorem L_end {f : Nat} (h : M.1 31 8 = nI 0) (ht : M.1 31 14 = nI 0) : rX7_reads_b76 (f + 1) M = some M := by
  show rX7_reads_b76_s (rX7_reads_b76 f) M = _
  unfold rX7_reads_b76_s
  rw [h, if_pos (show nI 0 = 0 from rfl), ht, if_pos (by decide)]
end
