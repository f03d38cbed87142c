section
variable {t : Nat → Nat} {n mo sp d e : Nat} {M0 M : Mm} {out : List Nat} {p co fc : Nat} {fp : Int32}
theorem r_sn (B : Br t n mo sp d e M0) (h : RI M0 M out co 0 (-1)) (hp : t p = 1 ∨ t p = 5) (hpe : p < e) (ho : out.length ≤ mo) (hc : co ≤ sp) : RR M0 d (bd2 (rX7_has (nI p) 2 M) fun r21 M20 => if r21 = 0 then some M20 else (if (nI p + 1) < 0 ∨ 1200 ≤ (nI p + 1).toNatClampNeg then none else bd2 (rX7_has (nI p) (2 + (M20.1 32 (nI p + 1).toNatClampNeg)) M20) fun r26 M25 => if r26 = 0 then some M25 else (if (nI p + 1) < 0 ∨ 1200 ≤ (nI p + 1).toNatClampNeg then none else if nI p < 0 ∨ 1200 ≤ (nI p).toNatClampNeg then none else if (M25.1 32 (nI p).toNatClampNeg) = 1 then (rX7_item_b166 (nI d) (nI p) 2 (M25.1 32 (nI p + 1).toNatClampNeg) 2 (nI p) M25) else (rX7_item_b166 (nI d) (nI p) 1 (M25.1 32 (nI p + 1).toNatClampNeg) 2 (nI p) M25)))) (if t p = 1 then aStored t mo sp e p out co else aNote t mo sp e p out co) := by
  obtain ⟨b1, b2, b3, b4, b5, b6, -⟩ := id B
  have hA : (e ≤ p + 1 → (if t p = 1 then aStored t mo sp e p out co else aNote t mo sp e p out co) = rf 3 e out co) := by
    intro q
    unfold aStored aNote
    rw [if_pos q, if_pos q, ite_self]
  by_cases c1 : e ≤ p + 1
  · rw [hA c1]
    obtain ⟨M1, e1, h1⟩ := rv_has0 B h (a := p) (k := 2) (by omega) (by omega)
    rw [k_2, e1, bd2_some]
    exact RR.no h1 (by decide)
  have e1 := rv_has1 B h (a := p) (k := 2) (by omega)
  have tq := h.tp B (i := p + 1) (by omega)
  have tq0 := h.tp B (i := p) (by omega)
  have tb := b2 (p + 1) (by omega)
  rw [show rX7_has (nI p) 2 M = some (1, M) from e1, bd2_some, if_neg (by decide), k_1, nI_add, if_neg (nocl (by omega) (by decide)), nI_clamp (by omega), tq, k_2, nI_add]
  by_cases c2 : e < p + 2 + t (p + 1)
  · obtain ⟨M1, e2, h1⟩ := rv_has0 B h (a := p) (k := 2 + t (p + 1)) (by omega) (by omega)
    rw [e2, bd2_some]
    have hA2 : (if t p = 1 then aStored t mo sp e p out co else aNote t mo sp e p out co) = rf 3 e out co := by
      unfold aStored aNote
      rw [if_neg c1, if_neg c1, if_pos c2, if_pos c2, ite_self]
    rw [hA2]
    exact RR.no h1 (by decide)
  have e2 := rv_has1 B h (a := p) (k := 2 + t (p + 1)) (by omega)
  rw [e2, bd2_some, if_neg (by decide), if_neg (show ¬ (nI (p + 1) < 0 ∨ 1200 ≤ p + 1) from fun q => q.elim (nI_pos (by omega)) (by omega)), if_neg (nocl (a := p) (by omega) (by decide)), nI_clamp (n := p) (by omega), tq0, tq]
  rcases hp with hp | hp
  · rw [hp, if_pos (show nI 1 = nI 1 from rfl), if_pos rfl]
    unfold rX7_item_b166 rX7_item_b190 aStored
    rw [if_neg c1, if_neg c2, if_neg (nocl (a := p) (by omega) (by decide)), nI_clamp (n := p) (by omega), tq0, hp, if_pos (show nI 1 = 1 from rfl), k_1, nI_add, if_neg (nocl (by omega) (by decide)), nI_clamp (by omega), tq, nI_mul, nI_add]
    obtain ⟨M3, e3, h3⟩ := rv_pay B h p (2 + t (p + 1) * 2) (t (p + 1)) (by omega) (by omega) (by omega) (by omega)
    rw [e3, bd2_some, show 2 + t (p + 1) * 2 = 2 + t (p + 1) + t (p + 1) by omega]
    rw [show 2 + t (p + 1) * 2 = 2 + t (p + 1) + t (p + 1) by omega] at h3
    by_cases c3 : aPay mo sp out.length co (t (p + 1)) (2 + t (p + 1) + t (p + 1)) = 0
    · simp only [c3, if_true] at h3 ⊢
      obtain ⟨g1, g2⟩ := aPay_cap c3
      obtain ⟨M4, e4, h4⟩ := lr_stored B (p := p) hp (t (p + 1)) FU 0 M3 out (by unfold FU; omega) h3 (by omega) (by omega) (by omega)
      rw [if_neg (by decide), show rX7_item_b198 FU (nI d) (nI p) 0 M3 = rX7_item_b198 FU (nI d) (nI p) (nI 0) M3 from rfl, e4]
      exact RR.ok h4
    · simp only [c3, if_false] at h3 ⊢
      exact RR.no h3 c3
  · rw [hp, if_neg (show ¬ nI 5 = nI 1 by decide), if_neg (by decide)]
    unfold rX7_item_b166 rX7_item_b190 aNote
    rw [if_neg c1, if_neg c2, if_neg (nocl (a := p) (by omega) (by decide)), nI_clamp (n := p) (by omega), tq0, hp, if_neg (show ¬ nI 5 = 1 by decide), nI_mul, nI_add, show (0 : Int32) = nI 0 from rfl]
    obtain ⟨M3, e3, h3⟩ := rv_pay B h p (2 + t (p + 1) * 1) 0 (by omega) (by omega) (by omega) (by omega)
    rw [e3, bd2_some, show 2 + t (p + 1) * 1 = 2 + t (p + 1) by omega]
    rw [show 2 + t (p + 1) * 1 = 2 + t (p + 1) by omega] at h3
    by_cases c3 : aPay mo sp out.length co 0 (2 + t (p + 1)) = 0
    · simp only [c3, if_true] at h3 ⊢
      rw [if_neg (by decide), lr_note B hp h3 (by omega)]
      exact RR.ok h3
    · simp only [c3, if_false] at h3 ⊢
      exact RR.no h3 c3
theorem r_run (B : Br t n mo sp d e M0) (h : RI M0 M out co 0 (-1)) (hpe : p < e) (ho : out.length ≤ mo) (hc : co ≤ sp) : RR M0 d (bd2 (rX7_has (nI p) 3 M) fun r52 M51 => if r52 = 0 then some M51 else (if (nI p + 1) < 0 ∨ 1200 ≤ (nI p + 1).toNatClampNeg then none else if (nI p + 1) < 0 ∨ 1200 ≤ (nI p + 1).toNatClampNeg then none else bd2 (rX7_pays (nI p) (3 + (M51.1 32 (nI p + 1).toNatClampNeg)) (M51.1 32 (nI p + 1).toNatClampNeg) M51) fun r58 M57 => if r58 = 0 then some M57 else (rX7_item_b297 FU (nI d) (nI p) 0 M57))) (aRun t mo sp e p out co) := by
  obtain ⟨b1, b2, b3, b4, b5, b6, -⟩ := id B
  unfold aRun
  by_cases c1 : e ≤ p + 2
  · rw [if_pos c1]
    obtain ⟨M1, e1, h1⟩ := rv_has0 B h (a := p) (k := 3) (by omega) (by omega)
    rw [k_3, e1, bd2_some]
    exact RR.no h1 (by decide)
  have e1 := rv_has1 B h (a := p) (k := 3) (by omega)
  have tq := h.tp B (i := p + 1) (by omega)
  have tb := b2 (p + 1) (by omega)
  obtain ⟨M3, e3, h3⟩ := rv_pay B h p (3 + t (p + 1)) (t (p + 1)) (by omega) (by omega) (by omega) (by omega)
  rw [if_neg c1, show rX7_has (nI p) 3 M = some (1, M) from e1, bd2_some, if_neg (by decide), k_1, nI_add, nI_clamp (by omega), if_neg (show ¬ (nI (p + 1) < 0 ∨ 1200 ≤ p + 1) from fun q => q.elim (nI_pos (by omega)) (by omega)), if_neg (show ¬ (nI (p + 1) < 0 ∨ 1200 ≤ p + 1) from fun q => q.elim (nI_pos (by omega)) (by omega)), tq, k_3, nI_add, e3, bd2_some]
  by_cases c3 : aPay mo sp out.length co (t (p + 1)) (3 + t (p + 1)) = 0
  · simp only [c3, if_true] at h3 ⊢
    obtain ⟨g1, g2⟩ := aPay_cap c3
    obtain ⟨M4, e4, h4⟩ := lr_run B (p := p) (t (p + 1)) FU 0 M3 out (by unfold FU; omega) h3 (by omega) (by omega) (by omega)
    rw [if_neg (by decide), show rX7_item_b297 FU (nI d) (nI p) 0 M3 = rX7_item_b297 FU (nI d) (nI p) (nI 0) M3 from rfl, e4]
    exact RR.ok h4
  · simp only [c3, if_false] at h3 ⊢
    exact RR.no h3 c3
theorem r_copy (B : Br t n mo sp d e M0) {oa : Nat} (hk : M0.1 37 d = nI oa) (h : RI M0 M out co 0 (-1)) (hpe : p < e) (ho : out.length ≤ mo) (hoa : oa ≤ out.length) (hc : co ≤ sp) : RR M0 d (rX7_copy (nI d) (nI p) M) (aCopy t mo sp e oa p out co) := by
  obtain ⟨b1, b2, b3, b4, b5, b6, -⟩ := id B
  unfold aCopy rX7_copy rX7_copy_b38
  by_cases c1 : e ≤ p + 1
  · rw [if_pos c1]
    obtain ⟨M1, e1, h1⟩ := rv_has0 B h (a := p) (k := 2) (by omega) (by omega)
    rw [show rX7_has (nI p) 2 M = some (0, M1) from e1, bd2_some]
    exact RR.no h1 (by decide)
  have e1 := rv_has1 B h (a := p) (k := 2) (by omega)
  have tq := h.tp B (i := p + 1) (by omega)
  have tb := b2 (p + 1) (by omega)
  have hq : M.1 37 d = nI oa := by rw [h.1 37 (by decide) (by decide) (by decide)]; exact hk
  obtain ⟨f1, f2⟩ := h.fl 4 (nI (p + 1))
  rw [if_neg c1, show rX7_has (nI p) 2 M = some (1, M) from e1, bd2_some, if_neg (by decide), k_1, nI_add, if_neg (nocl (by omega) (by decide)), nI_clamp (by omega), tq, lt_e]
  by_cases c2 : t (p + 1) = 0
  · rw [if_pos (Or.inl c2), if_pos (by rw [c2]; rfl), k_4, f1]
    exact RR.no f2 (by decide)
  rw [if_neg (nI_ne0 (by omega) (by omega)), if_neg (nocl (a := d) (by omega) (by decide)), nI_clamp (n := d) (by omega), h.2.2.2.2.2.2.1, hq, pk_sub hoa]
  by_cases c3 : out.length - oa < t (p + 1)
  · rw [if_pos (Or.inr c3), if_neg (by rw [nI_leI (by omega) (by omega)]; omega), k_4, f1]
    exact RR.no f2 (by decide)
  rw [if_neg (show ¬ (t (p + 1) = 0 ∨ out.length - oa < t (p + 1)) by omega), if_pos (show nI (t (p + 1)) ≤ nI (out.length - oa) from (nI_leI (by omega) (by omega)).mpr (by omega))]
  by_cases c4 : e ≤ p + 2
  · rw [if_pos c4]
    obtain ⟨M1, e2, h1⟩ := rv_has0 B h (a := p) (k := 3) (by omega) (by omega)
    rw [show rX7_has (nI p) 3 M = some (0, M1) from e2, bd2_some]
    exact RR.no h1 (by decide)
  have e2 := rv_has1 B h (a := p) (k := 3) (by omega)
  have tq2 := h.tp B (i := p + 2) (by omega)
  have tb2 := b2 (p + 2) (by omega)
  obtain ⟨M3, e3, h3⟩ := rv_pay B h p (3 + t (p + 2)) (t (p + 2)) (by omega) (by omega) (by omega) (by omega)
  rw [if_neg c4, show rX7_has (nI p) 3 M = some (1, M) from e2, bd2_some, if_neg (by decide), k_2, nI_add, nI_clamp (n := p + 2) (by omega), if_neg (show ¬ (nI (p + 2) < 0 ∨ 1200 ≤ p + 2) from fun q => q.elim (nI_pos (by omega)) (by omega)), if_neg (show ¬ (nI (p + 2) < 0 ∨ 1200 ≤ p + 2) from fun q => q.elim (nI_pos (by omega)) (by omega)), tq2, k_3, nI_add, e3, bd2_some]
  by_cases c5 : aPay mo sp out.length co (t (p + 2)) (3 + t (p + 2)) = 0
  · simp only [c5, if_true] at h3 ⊢
    obtain ⟨g1, g2⟩ := aPay_cap c5
    obtain ⟨M4, e4, h4⟩ := lr_copy B (p := p) (t (p + 1)) (by omega) (t (p + 2)) FU 0 M3 out (by unfold FU; omega) h3 (by omega) (by omega) (by omega) (by omega)
    rw [if_neg (by decide), show rX7_copy_b87 FU (nI d) (nI p) (nI (t (p + 1))) 0 M3 = rX7_copy_b87 FU (nI d) (nI p) (nI (t (p + 1))) (nI 0) M3 from rfl, e4]
    exact RR.ok h4
  · simp only [c5, if_false] at h3 ⊢
    exact RR.no h3 c5
theorem r_again (B : Br t n mo sp d e M0) {oa : Nat} {ends : List Nat} (hk : M0.1 37 d = nI oa) (hk8 : M0.1 38 d = nI ends.length) (hl : ends.length < 600) (hen : ∀ k, k < ends.length → M0.1 39 (600 * d + k) = nI (ends.getD k 0) ∧ oa + ends.getD k 0 ≤ out.length) (h : RI M0 M out co 0 (-1)) (hpe : p < e) (ho : out.length ≤ mo) (hc : co ≤ sp) : RR M0 d (rX7_again (nI d) (nI p) M) (aAgain t mo sp e oa ends p out co) := by
  obtain ⟨b1, b2, b3, b4, b5, b6, -⟩ := id B
  unfold aAgain rX7_again
  by_cases c1 : e ≤ p + 1
  · rw [if_pos c1]
    obtain ⟨M1, e1, h1⟩ := rv_has0 B h (a := p) (k := 2) (by omega) (by omega)
    rw [show rX7_has (nI p) 2 M = some (0, M1) from e1, bd2_some]
    exact RR.no h1 (by decide)
  have e1 := rv_has1 B h (a := p) (k := 2) (by omega)
  have tq := h.tp B (i := p + 1) (by omega)
  have tb := b2 (p + 1) (by omega)
  have hq : M.1 38 d = nI ends.length := by rw [h.1 38 (by decide) (by decide) (by decide)]; exact hk8
  rw [if_neg c1, show rX7_has (nI p) 2 M = some (1, M) from e1, bd2_some, if_neg (by decide), k_1, nI_add, if_neg (nocl (by omega) (by decide)), nI_clamp (by omega), tq, lt_e, if_neg (nocl (a := d) (by omega) (by decide)), nI_clamp (n := d) (by omega), hq]
  by_cases c2 : ends.length ≤ t (p + 1)
  · obtain ⟨f1, f2⟩ := h.fl 5 (nI (p + 1))
    rw [if_pos c2, if_neg (by rw [nI_ltI (by omega) (by omega)]; omega), k_5, f1]
    exact RR.no f2 (by decide)
  obtain ⟨g3, g4⟩ := hen (t (p + 1)) (by omega)
  have hq9 : M.1 39 (600 * d + t (p + 1)) = nI (ends.getD (t (p + 1)) 0) := by rw [h.1 39 (by decide) (by decide) (by decide)]; exact g3
  obtain ⟨M3, e3, h3⟩ := rv_pay B h p (2 + ends.getD (t (p + 1)) 0) (ends.getD (t (p + 1)) 0) (by omega) (by omega) (by omega) (by omega)
  rw [if_neg c2, if_pos ((nI_ltI (by omega) (by omega)).mpr (by omega)), k_600, nI_mul, nI_add, if_neg (nocl (a := 600 * d + t (p + 1)) (by omega) (by decide)), nI_clamp (n := 600 * d + t (p + 1)) (by omega), hq9, lt_e, k_2, nI_add, e3, bd2_some]
  by_cases c5 : aPay mo sp out.length co (ends.getD (t (p + 1)) 0) (2 + ends.getD (t (p + 1)) 0) = 0
  · simp only [c5, if_true] at h3 ⊢
    obtain ⟨g1, g2⟩ := aPay_cap c5
    obtain ⟨M4, e4, h4⟩ := lr_again B (p := p) oa (ends.getD (t (p + 1)) 0) hk (ends.getD (t (p + 1)) 0) FU 0 M3 out (by unfold FU; omega) h3 (by omega) (by omega) (by omega)
    rw [if_neg (by decide), show rX7_again_b69 FU (nI d) (nI p) (nI (ends.getD (t (p + 1)) 0)) 0 M3 = rX7_again_b69 FU (nI d) (nI p) (nI (ends.getD (t (p + 1)) 0)) (nI 0) M3 from rfl, e4]
    exact RR.ok h4
  · simp only [c5, if_false] at h3 ⊢
    exact RR.no h3 c5
end
