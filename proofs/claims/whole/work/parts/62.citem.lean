theorem nI_nm {a : Nat} (h : a < 2 ^ 31) : ¬ nI a = (-1 : Int32) := by rw [show (-1 : Int32) = -nI 1 from rfl, nI_m1 h]; exact not_false
section
variable {t : Nat → Nat} {n mo sp dp : Nat} {M0 M : Mm} {out : List Nat} {p co fc e : Nat} {fp : Int32}
theorem e_note (B : Bc t n mo sp dp M0) (h : CI M0 M out (p + 1) co 0 (-1)) (hpe : p < e) (he : e ≤ n) (ho : out.length ≤ mo) (hc : co ≤ sp) : ∃ M', rX4_readNote (nI p) (nI e) M = some M' ∧ RS M0 M' (aNote t mo sp e p out co) := by
  obtain ⟨b1, b2, b3, b4, b5, -⟩ := id B
  unfold rX4_readNote aNote
  by_cases c1 : e ≤ p + 1
  · obtain ⟨M1, e1, h1⟩ := ev_next0 h c1 (by omega) (by omega) (by decide)
    refine ⟨M1, by rw [e1]; rfl, ?_⟩
    rw [if_pos c1]
    exact RS.no h1 (by decide)
  · obtain ⟨M1, e1, h1⟩ := ev_next1 B h (by omega) he
    have tb := b2 (p + 1) (by omega)
    rw [e1, bd2_some, if_neg (nI_nm (by omega)), if_neg c1]
    by_cases c2 : e < p + 2 + t (p + 1)
    · obtain ⟨M2, e2, h2⟩ := ev_has0 h1 (e := e) (t (p + 1)) (by omega) (by omega) (by omega) (by omega) (by decide)
      refine ⟨M2, by rw [e2]; rfl, ?_⟩
      rw [if_pos c2]
      exact RS.no h2 (by decide)
    · have e2 := ev_has1 h1 (e := e) (t (p + 1)) (by omega) (by omega)
      rw [e2, bd2_some, if_neg (by decide), if_neg c2]
      obtain ⟨M3, e3, h3⟩ := ev_pay B h1 p 0 (2 + t (p + 1)) (by omega) (by omega) (by omega) (by omega)
      rw [k_2, k_0, nI_add, e3, bd2_some]
      by_cases c3 : aPay mo sp out.length co 0 (2 + t (p + 1)) = 0
      · simp only [c3, if_true] at h3 ⊢
        refine ⟨st M3 5 9 (nI (p + 2 + t (p + 1))), ?_, RS.ok (h3.spot _)⟩
        have h4 := h3.2.2.2.1
        rw [if_neg (by decide), lt_e, h4, nI_add]
      · simp only [c3, if_false] at h3 ⊢
        exact ⟨M3, rfl, RS.no h3 c3⟩
theorem e_run (B : Bc t n mo sp dp M0) (h : CI M0 M out (p + 1) co 0 (-1)) (hpe : p < e) (he : e ≤ n) (ho : out.length ≤ mo) (hc : co ≤ sp) : ∃ M', rX4_readRun (nI p) (nI e) M = some M' ∧ RS M0 M' (aRun t mo sp e p out co) := by
  obtain ⟨b1, b2, b3, b4, b5, -⟩ := id B
  unfold rX4_readRun aRun
  by_cases c1 : e ≤ p + 1
  · obtain ⟨M1, e1, h1⟩ := ev_next0 h c1 (by omega) (by omega) (by decide)
    obtain ⟨M2, e2, h2⟩ := ev_next0 h1 c1 (by omega) (by omega) (by decide)
    refine ⟨M2, by rw [e1, bd2_some, e2]; rfl, ?_⟩
    rw [if_pos (by omega)]
    exact RS.no h2 (by decide)
  · obtain ⟨M1, e1, h1⟩ := ev_next1 B h (by omega) he
    have tb := b2 (p + 1) (by omega)
    rw [e1, bd2_some]
    by_cases c2 : e ≤ p + 2
    · obtain ⟨M2, e2, h2⟩ := ev_next0 h1 (e := e) (by omega) (by omega) (by omega) (by decide)
      refine ⟨M2, by rw [e2, bd2_some, if_neg (nI_nm (by omega))]; rfl, ?_⟩
      rw [if_pos c2]
      exact RS.no h2 (by decide)
    · obtain ⟨M2, e2, h2⟩ := ev_next1 B h1 (e := e) (by omega) he
      rw [show p + 1 + 1 = p + 2 from rfl] at e2
      have tb2 := b2 (p + 2) (by omega)
      rw [e2, bd2_some, if_neg (nI_nm (by omega)), if_neg (nI_nm (by omega)), if_neg c2]
      obtain ⟨M3, e3, h3⟩ := ev_pay B h2 p (t (p + 1)) (3 + t (p + 1)) (by omega) (by omega) (by omega) (by omega)
      rw [k_3, nI_add, e3, bd2_some]
      by_cases c3 : aPay mo sp out.length co (t (p + 1)) (3 + t (p + 1)) = 0
      · simp only [c3, if_true] at h3 ⊢
        obtain ⟨g1, g2⟩ := aPay_cap c3
        obtain ⟨M4, e4, h4⟩ := lp_run (t (p + 2)) (t (p + 1)) FU 0 M3 out (by unfold FU; omega) h3 (by omega) (by omega)
        rw [Nat.zero_add] at e4
        exact ⟨M4, by rw [if_neg (by decide)]; exact e4, RS.ok h4⟩
      · simp only [c3, if_false] at h3 ⊢
        exact ⟨M3, rfl, RS.no h3 c3⟩
theorem e_copy (B : Bc t n mo sp dp M0) {pk oa : Nat} (hpk : 18 < pk) (hk1 : M0.1 pk 1 = nI e) (hk2 : M0.1 pk 2 = nI oa) (h : CI M0 M out (p + 1) co 0 (-1)) (hpe : p < e) (he : e ≤ n) (ho : out.length ≤ mo) (hoa : oa ≤ out.length) (hc : co ≤ sp) : ∃ M', rX4_readCopy (nI p) pk M = some M' ∧ RS M0 M' (aCopy t mo sp e oa p out co) := by
  obtain ⟨b1, b2, b3, b4, b5, -⟩ := id B
  have g0 : ∀ {M : Mm} {out : List Nat} {p co fc : Nat} {fp : Int32}, CI M0 M out p co fc fp → M.1 pk 1 = nI e ∧ M.1 pk 2 = nI oa := fun h => ⟨by rw [h.1 pk (by omega) (by omega) (by omega) (by omega)]; exact hk1, by rw [h.1 pk (by omega) (by omega) (by omega) (by omega)]; exact hk2⟩
  unfold rX4_readCopy aCopy rX4_readCopy_b35
  rw [(g0 h).1]
  by_cases c1 : e ≤ p + 1
  · obtain ⟨M1, e1, h1⟩ := ev_next0 h c1 (by omega) (by omega) (by decide)
    refine ⟨M1, by rw [e1]; rfl, ?_⟩
    rw [if_pos c1]
    exact RS.no h1 (by decide)
  · obtain ⟨M1, e1, h1⟩ := ev_next1 B h (by omega) he
    have tb := b2 (p + 1) (by omega)
    obtain ⟨M2, e2, h2⟩ := ev_fail (c := 4) (w := nI (p + 1)) h1 (by decide) (by decide)
    have h14 := h1.2.2.2.1
    have h18 := h1.2.2.2.2.2.2.2.1
    have hw : M1.1 5 9 - 1 = nI (p + 1) := by rw [h14, k_1, pk_sub (by omega)]; rfl
    rw [e1, bd2_some, if_neg (nI_nm (by omega)), if_neg c1]
    by_cases c2 : t (p + 1) = 0
    · refine ⟨M2, ?_, ?_⟩
      · rw [c2, k_0, if_pos rfl, hw, k_4, e2]; rfl
      · rw [if_pos (Or.inl c2)]
        exact RS.no h2 (by decide)
    · have c2' : ¬ nI (t (p + 1)) = 0 := nI_ne0 (by omega) (by omega)
      rw [if_neg c2', h18, (g0 h1).2, pk_sub hoa]
      by_cases c3 : out.length - oa < t (p + 1)
      · refine ⟨M2, ?_, ?_⟩
        · rw [if_neg (by rw [nI_leI (by omega) (by omega)]; omega), hw, k_4, e2]; rfl
        · rw [if_pos (Or.inr c3)]
          exact RS.no h2 (by decide)
      · rw [if_pos (by rw [nI_leI (by omega) (by omega)]; omega), if_neg (by omega), (g0 h1).1]
        by_cases c4 : e ≤ p + 2
        · obtain ⟨M3, e3, h3⟩ := ev_next0 h1 (e := e) (by omega) (by omega) (by omega) (by decide)
          refine ⟨M3, by rw [e3]; rfl, ?_⟩
          rw [if_pos c4]
          exact RS.no h3 (by decide)
        · obtain ⟨M3, e3, h3⟩ := ev_next1 B h1 (e := e) (by omega) he
          rw [show p + 1 + 1 = p + 2 from rfl] at e3
          have tb2 := b2 (p + 2) (by omega)
          rw [e3, bd2_some, if_neg (nI_nm (by omega)), if_neg c4]
          obtain ⟨M4, e4, h4⟩ := ev_pay B h3 p (t (p + 2)) (3 + t (p + 2)) (by omega) (by omega) (by omega) (by omega)
          rw [k_3, nI_add]
          rw [e4, bd2_some]
          by_cases c5 : aPay mo sp out.length co (t (p + 2)) (3 + t (p + 2)) = 0
          · simp only [c5, if_true] at h4 ⊢
            obtain ⟨g1, g2⟩ := aPay_cap c5
            obtain ⟨M5, e5, h5⟩ := lp_copy pk (t (p + 1)) (by omega) (t (p + 2)) FU 0 M4 out (by unfold FU; omega) h4 (by omega) (by omega) (by omega)
            rw [Nat.zero_add] at e5
            exact ⟨M5, by rw [if_neg (by decide)]; exact e5, RS.ok h5⟩
          · simp only [c5, if_false] at h4 ⊢
            exact ⟨M4, rfl, RS.no h4 c5⟩
theorem e_again (B : Bc t n mo sp dp M0) {pk oa fi : Nat} {ends : List Nat} (hpk : 18 < pk) (hpk2 : pk < 29) (hk1 : M0.1 pk 1 = nI e) (hk2 : M0.1 pk 2 = nI oa) (hk3 : M0.1 pk 3 = nI fi) (hk4 : M0.1 pk 4 = nI ends.length) (hfi : fi + ends.length ≤ 600) (hen : ∀ k, k < ends.length → M0.1 29 (fi + k) = nI (oa + ends.getD k 0) ∧ oa + ends.getD k 0 ≤ out.length) (h : CI M0 M out (p + 1) co 0 (-1)) (hpe : p < e) (he : e ≤ n) (ho : out.length ≤ mo) (hc : co ≤ sp) : ∃ M', rX4_readAgain (nI p) pk M = some M' ∧ RS M0 M' (aAgain t mo sp e oa ends p out co) := by
  obtain ⟨b1, b2, b3, b4, b5, -⟩ := id B
  have g0 : ∀ {M : Mm} {out : List Nat} {p co fc : Nat} {fp : Int32}, CI M0 M out p co fc fp → M.1 pk = M0.1 pk ∧ M.1 29 = M0.1 29 := fun h => ⟨h.1 pk (by omega) (by omega) (by omega) (by omega), h.1 29 (by omega) (by omega) (by omega) (by omega)⟩
  unfold rX4_readAgain aAgain rX4_readAgain_b46
  rw [(g0 h).1, hk1]
  by_cases c1 : e ≤ p + 1
  · obtain ⟨M1, e1, h1⟩ := ev_next0 h c1 (by omega) (by omega) (by decide)
    refine ⟨M1, by rw [e1]; rfl, ?_⟩
    rw [if_pos c1]
    exact RS.no h1 (by decide)
  · obtain ⟨M1, e1, h1⟩ := ev_next1 B h (by omega) he
    have tb := b2 (p + 1) (by omega)
    obtain ⟨M2, e2, h2⟩ := ev_fail (c := 5) (w := nI (p + 1)) h1 (by decide) (by decide)
    have h14 := h1.2.2.2.1
    have hw : M1.1 5 9 - 1 = nI (p + 1) := by rw [h14, k_1, pk_sub (by omega)]; rfl
    rw [e1, bd2_some, if_neg (nI_nm (by omega)), if_neg c1, lt_e, (g0 h1).1, (g0 h1).2, hk2, hk3, hk4, nI_add]
    by_cases c2 : ends.length ≤ t (p + 1)
    · refine ⟨M2, ?_, ?_⟩
      · rw [if_pos (by rw [nI_leI (by omega) (by omega)]; exact c2), hw, k_5, e2]; rfl
      · rw [if_pos c2]
        exact RS.no h2 (by decide)
    · obtain ⟨q1, q2⟩ := hen (t (p + 1)) (by omega)
      have q3 : nI (fi + t (p + 1)) < nI 600 := (nI_ltI (by omega) (by omega)).mpr (by omega)
      rw [if_neg (by rw [nI_leI (by omega) (by omega)]; exact c2), if_neg (nI_pos (by omega)), if_pos q3, if_neg (by rw [nI_clamp (by omega)]; exact fun q => q.elim (nI_pos (by omega)) (by omega)), lt_e, nI_clamp (by omega), q1, pk_sub (by omega), show oa + ends.getD (t (p + 1)) 0 - oa = ends.getD (t (p + 1)) 0 by omega, if_neg c2]
      obtain ⟨M4, e4, h4⟩ := ev_pay B h1 p (ends.getD (t (p + 1)) 0) (2 + ends.getD (t (p + 1)) 0) (by omega) (by omega) (by omega) (by omega)
      rw [k_2, nI_add, e4, bd2_some]
      by_cases c5 : aPay mo sp out.length co (ends.getD (t (p + 1)) 0) (2 + ends.getD (t (p + 1)) 0) = 0
      · simp only [c5, if_true] at h4 ⊢
        obtain ⟨g1, g2⟩ := aPay_cap c5
        obtain ⟨M5, e5, h5⟩ := lp_again pk oa hpk hk2 (ends.getD (t (p + 1)) 0) FU 0 M4 out (by unfold FU; omega) h4 (by omega) (by omega)
        rw [Nat.zero_add] at e5
        exact ⟨M5, by rw [if_neg (by decide)]; exact e5, RS.ok h5⟩
      · simp only [c5, if_false] at h4 ⊢
        exact ⟨M4, rfl, RS.no h4 c5⟩
end
