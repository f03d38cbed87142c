theorem d_fail {a b : Int32} {M M' : Mm} (h : rX4_fail a b M = some M') : D1 M M' 5 := by
  unfold rX4_fail at h
  split at h
  · simp only [lt_e, Option.some.injEq] at h
    rw [← h]
    exact D1.st.tr D1.st
  · simp only [Option.some.injEq] at h
    rw [← h]
    exact D1.rf
theorem d_get {o n1 n2 : Nat} {a r : Int32} {M M' : Mm} (h : rX0_get o n1 n2 a M = some (r, M')) : M' = M := by
  unfold rX0_get at h
  split at h
  · cases h; rfl
  · split at h
    · cases h; rfl
    · split at h
      · cases h
      · cases h; rfl
theorem d_next {a r : Int32} {M M' : Mm} (h : rX4_next a M = some (r, M')) : D1 M M' 5 := by
  unfold rX4_next at h
  split at h
  · obtain ⟨r1, M1, e1, h⟩ := ob_bd2 h
    have hM := d_get e1
    simp only [lt_e, Option.some.injEq, Prod.mk.injEq] at h
    rw [← h.2, hM]
    exact D1.st
  · obtain ⟨M1, e1, h⟩ := ob_bind h
    cases h
    exact d_fail e1
theorem d_can {a b c r : Int32} {M M' : Mm} (h : rX4_canPay a b c M = some (r, M')) : D1 M M' 5 := by
  unfold rX4_canPay at h
  split at h
  · split at h
    · cases (ob_gd h).2; exact D1.rf
    · obtain ⟨M1, e1, h⟩ := ob_bind h
      cases (ob_gd h).2
      exact d_fail e1
  · obtain ⟨M1, e1, h⟩ := ob_bind h
    cases (ob_gd h).2
    exact d_fail e1
theorem d_pay {a b c r : Int32} {M M' : Mm} (h : rX4_pay a b c M = some (r, M')) : D1 M M' 5 := by
  unfold rX4_pay at h
  obtain ⟨r1, M1, e1, h⟩ := ob_bd2 h
  split at h
  · cases (ob_gd h).2; exact d_can e1
  · rw [lt_e] at h
    cases (ob_gd h).2
    exact (d_can e1).tr D1.st
/-- the table of a CODED item, as the class holds it -/
def TV (sy ln : Nat → Nat) (m : Nat) (M : Mm) : Prop := M.1 15 3 = nI m ∧ M.1 15 4 = nI (kL ln m) ∧ (∀ k, k < m → M.1 16 k = nI (sy k)) ∧ (∀ k, k < m → M.1 17 k = nI (ln k)) ∧ (∀ k, k < m → 1 ≤ ln k → M.1 18 k = nI (cdv ln m k))
theorem TV.mv {sy ln : Nat → Nat} {m : Nat} {M M' : Mm} (h : TV sy ln m M) (d : D1 M M' 5) : TV sy ln m M' := by
  unfold TV
  rw [d.1 15 (by decide), d.1 16 (by decide), d.1 17 (by decide), d.1 18 (by decide)]
  exact h
section
variable {sy ln : Nat → Nat} {m : Nat}
theorem kS_le (ln : Nat → Nat) : ∀ k, kS ln k ≤ 64 * k
  | 0 => Nat.le_refl 0
  | k + 1 => by
    have := kS_le ln k
    rw [kS]
    split
    · have : 128 / 2 ^ ln k ≤ 64 := by
        have h2 : 2 ^ 1 ≤ 2 ^ ln k := Nat.pow_le_pow_right (by decide) (by omega)
        calc 128 / 2 ^ ln k ≤ 128 / 2 ^ 1 := Nat.div_le_div_left h2 (by decide)
          _ = 64 := by decide
      omega
    · omega
theorem kU_le (ln : Nat → Nat) : ∀ k, kU ln k ≤ k
  | 0 => Nat.le_refl 0
  | k + 1 => by
    have := kU_le ln k
    rw [kU]
    split <;> omega
theorem lp_good (hm : m ≤ 8) (hl : ∀ k, k < m → ln k ≤ 7) {M : Mm} (h3 : M.1 15 3 = nI m) (h4 : M.1 15 4 = nI (kL ln m)) (h7 : ∀ k, k < m → M.1 17 k = nI (ln k)) : ∀ (r fuel i : Nat), r < fuel → i + r = m → (kS ln m = 128 ∨ (kU ln m = 1 ∧ kL ln m = 1) → rX5_isGood_b6 fuel (nI (kS ln i)) (nI (kU ln i)) (nI i) M = some (1, M)) ∧ (¬ (kS ln m = 128 ∨ (kU ln m = 1 ∧ kL ln m = 1)) → rX5_isGood_b6 fuel (nI (kS ln i)) (nI (kU ln i)) (nI i) M = some (0, M)) := by
  have hk7 := kL_le ln m hl
  intro r
  induction r with
  | zero =>
    intro fuel i hf hi
    obtain ⟨f, rfl⟩ : ∃ f, fuel = f + 1 := ⟨fuel - 1, by omega⟩
    have him : i = m := by omega
    subst him
    have b1 := kS_le ln i
    have b2 := kU_le ln i
    have e0 : ∀ z, rX5_isGood_b6 (f + 1) (nI (kS ln i)) (nI (kU ln i)) (nI i) M = z ↔ rX5_isGood_b6_s (rX5_isGood_b6 f) (nI (kS ln i)) (nI (kU ln i)) (nI i) M = z := fun z => Iff.rfl
    constructor
    · intro hg
      rw [e0]
      unfold rX5_isGood_b6_s rX5_isGood_b65
      by_cases g1 : kS ln i = 128
      · simp (disch := omega) only [lt_e, bd2_some, Option.bind_some, k_0, k_1, k_2, k_3, k_4, k_5, k_6, k_7, k_8, k_9, k_10, k_11, k_12, k_13, k_15, k_20, k_60, k_75, k_80, k_127, k_128, k_255, k_256, k_600, k_1200, k_4000, k_20000, nI_leI, nI_ltI, nI_eq, nI_m1, Nat.not_lt_zero, Nat.zero_le, nI_add, pk_sub, nI_mul, nI_clamp, z_0, z_1, if_true, if_false, not_true_eq_false, not_false_eq_true, or_false, false_or, or_self, true_or, or_true, h3, Nat.le_refl, g1]
      · obtain ⟨g2, g3⟩ : kU ln i = 1 ∧ kL ln i = 1 := by omega
        simp (disch := omega) only [lt_e, bd2_some, Option.bind_some, k_0, k_1, k_2, k_3, k_4, k_5, k_6, k_7, k_8, k_9, k_10, k_11, k_12, k_13, k_15, k_20, k_60, k_75, k_80, k_127, k_128, k_255, k_256, k_600, k_1200, k_4000, k_20000, nI_leI, nI_ltI, nI_eq, nI_m1, Nat.not_lt_zero, Nat.zero_le, nI_add, pk_sub, nI_mul, nI_clamp, z_0, z_1, if_true, if_false, not_true_eq_false, not_false_eq_true, or_false, false_or, or_self, true_or, or_true, h3, h4, Nat.le_refl, g1, g2, g3]
    · intro hg
      rw [e0]
      unfold rX5_isGood_b6_s
      have g1 : ¬ kS ln i = 128 := by omega
      by_cases g2 : kU ln i = 1
      · have g3 : ¬ kL ln i = 1 := by omega
        simp (disch := omega) only [lt_e, bd2_some, Option.bind_some, k_0, k_1, k_2, k_3, k_4, k_5, k_6, k_7, k_8, k_9, k_10, k_11, k_12, k_13, k_15, k_20, k_60, k_75, k_80, k_127, k_128, k_255, k_256, k_600, k_1200, k_4000, k_20000, nI_leI, nI_ltI, nI_eq, nI_m1, Nat.not_lt_zero, Nat.zero_le, nI_add, pk_sub, nI_mul, nI_clamp, z_0, z_1, if_true, if_false, not_true_eq_false, not_false_eq_true, or_false, false_or, or_self, true_or, or_true, h3, h4, Nat.le_refl, g1, g2, g3]
      · simp (disch := omega) only [lt_e, bd2_some, Option.bind_some, k_0, k_1, k_2, k_3, k_4, k_5, k_6, k_7, k_8, k_9, k_10, k_11, k_12, k_13, k_15, k_20, k_60, k_75, k_80, k_127, k_128, k_255, k_256, k_600, k_1200, k_4000, k_20000, nI_leI, nI_ltI, nI_eq, nI_m1, Nat.not_lt_zero, Nat.zero_le, nI_add, pk_sub, nI_mul, nI_clamp, z_0, z_1, if_true, if_false, not_true_eq_false, not_false_eq_true, or_false, false_or, or_self, true_or, or_true, h3, h4, Nat.le_refl, g1, g2]
  | succ r ih =>
    intro fuel i hf hi
    obtain ⟨f, rfl⟩ : ∃ f, fuel = f + 1 := ⟨fuel - 1, by omega⟩
    have h7i := h7 i (by omega)
    have hli := hl i (by omega)
    have c1 : ¬ m ≤ i := by omega
    have c2 : ¬ 8 ≤ i := by omega
    have b1 := kS_le ln i
    have b2 := kU_le ln i
    obtain ⟨i1, i2⟩ := ih f (i + 1) (by omega) (by omega)
    have key : rX5_isGood_b6 (f + 1) (nI (kS ln i)) (nI (kU ln i)) (nI i) M = rX5_isGood_b6 f (nI (kS ln (i + 1))) (nI (kU ln (i + 1))) (nI (i + 1)) M := by
      show rX5_isGood_b6_s (rX5_isGood_b6 f) (nI (kS ln i)) (nI (kU ln i)) (nI i) M = _
      unfold rX5_isGood_b6_s rX5_isGood_b39
      rw [kS, kU]
      by_cases g1 : 0 < ln i
      · have g2 : ¬ ln i ≤ 0 := by omega
        have g3 : nI 128 >>> (nI (ln i) &&& (31 : Int32)) = nI (128 / 2 ^ ln i) := shr_b (by decide) (by omega)
        simp (disch := omega) only [lt_e, bd2_some, Option.bind_some, k_0, k_1, k_2, k_3, k_4, k_5, k_6, k_7, k_8, k_9, k_10, k_11, k_12, k_13, k_15, k_20, k_60, k_75, k_80, k_127, k_128, k_255, k_256, k_600, k_1200, k_4000, k_20000, nI_leI, nI_ltI, nI_eq, nI_m1, Nat.not_lt_zero, Nat.zero_le, nI_add, pk_sub, nI_mul, nI_clamp, z_0, z_1, if_true, if_false, not_true_eq_false, not_false_eq_true, or_false, false_or, or_self, true_or, or_true, h3, h7i, c1, c2, g1, g2, g3]
      · have g2 : ln i ≤ 0 := by omega
        simp (disch := omega) only [lt_e, bd2_some, Option.bind_some, k_0, k_1, k_2, k_3, k_4, k_5, k_6, k_7, k_8, k_9, k_10, k_11, k_12, k_13, k_15, k_20, k_60, k_75, k_80, k_127, k_128, k_255, k_256, k_600, k_1200, k_4000, k_20000, nI_leI, nI_ltI, nI_eq, nI_m1, Nat.not_lt_zero, Nat.zero_le, nI_add, pk_sub, nI_mul, nI_clamp, z_0, z_1, if_true, if_false, not_true_eq_false, not_false_eq_true, or_false, false_or, or_self, true_or, or_true, h3, h7i, c1, c2, g1, g2, Nat.add_zero]
    rw [key]
    exact ⟨i1, i2⟩
theorem lp_sym (hm : m ≤ 8) (hl : ∀ k, k < m → ln k ≤ 7) {M : Mm} (h : TV sy ln m M) (L c : Nat) (hL : 1 ≤ L ∧ L ≤ 7) (hc : c < 1000) : ∀ (r fuel i : Nat), r < fuel → i + r = m → rX5_symbolOf_b2 fuel (nI c) (nI L) (nI i) M = some (match fnd ln m L c r i with | some k => nI (sy k) | none => -1, M) := by
  obtain ⟨h3, h4, h6, h7, h8⟩ := h
  intro r
  induction r with
  | zero =>
    intro fuel i hf hi
    obtain ⟨f, rfl⟩ : ∃ f, fuel = f + 1 := ⟨fuel - 1, by omega⟩
    have him : i = m := by omega
    subst him
    show rX5_symbolOf_b2_s (rX5_symbolOf_b2 f) _ _ _ M = _
    unfold rX5_symbolOf_b2_s
    simp (disch := omega) only [lt_e, bd2_some, Option.bind_some, k_0, k_1, k_2, k_3, k_4, k_5, k_6, k_7, k_8, k_9, k_10, k_11, k_12, k_13, k_15, k_20, k_60, k_75, k_80, k_127, k_128, k_255, k_256, k_600, k_1200, k_4000, k_20000, nI_leI, nI_ltI, nI_eq, nI_m1, Nat.not_lt_zero, Nat.zero_le, nI_add, pk_sub, nI_mul, nI_clamp, z_0, z_1, if_true, if_false, not_true_eq_false, not_false_eq_true, or_false, false_or, or_self, true_or, or_true, h3, Nat.le_refl, fnd]
  | succ r ih =>
    intro fuel i hf hi
    obtain ⟨f, rfl⟩ : ∃ f, fuel = f + 1 := ⟨fuel - 1, by omega⟩
    have h7i := h7 i (by omega)
    have hli := hl i (by omega)
    have c1 : ¬ m ≤ i := by omega
    have c2 : ¬ 8 ≤ i := by omega
    have e1 := ih f (i + 1) (by omega) (by omega)
    show rX5_symbolOf_b2_s (rX5_symbolOf_b2 f) _ _ _ M = _
    unfold rX5_symbolOf_b2_s rX5_symbolOf_b37
    rw [fnd]
    by_cases g1 : ln i = L
    · have h8i := h8 i (by omega) (by omega)
      have b1 := bs_le ln m hm (ln i)
      have b2 : 16 * 2 ^ ln i ≤ 16 * 2 ^ 7 := Nat.mul_le_mul_left _ (Nat.pow_le_pow_right (by decide) hli)
      have b3 := cn_le ln (ln i) i
      have b4 : cdv ln m i < 5000 := by rw [cdv]; omega
      have h6i := h6 i (by omega)
      by_cases g2 : cdv ln m i = c
      · rw [show (if ln i = L ∧ cdv ln m i = c then some i else fnd ln m L c r (i + 1)) = some i from if_pos ⟨g1, g2⟩]
        simp (disch := omega) only [lt_e, bd2_some, Option.bind_some, k_0, k_1, k_2, k_3, k_4, k_5, k_6, k_7, k_8, k_9, k_10, k_11, k_12, k_13, k_15, k_20, k_60, k_75, k_80, k_127, k_128, k_255, k_256, k_600, k_1200, k_4000, k_20000, nI_leI, nI_ltI, nI_eq, nI_m1, Nat.not_lt_zero, Nat.zero_le, nI_add, pk_sub, nI_mul, nI_clamp, z_0, z_1, if_true, if_false, not_true_eq_false, not_false_eq_true, or_false, false_or, or_self, true_or, or_true, h3, h6i, h7i, h8i, c1, c2, g1, g2]
      · rw [show (if ln i = L ∧ cdv ln m i = c then some i else fnd ln m L c r (i + 1)) = fnd ln m L c r (i + 1) from if_neg (fun q => g2 q.2)]
        simp (disch := omega) only [lt_e, bd2_some, Option.bind_some, k_0, k_1, k_2, k_3, k_4, k_5, k_6, k_7, k_8, k_9, k_10, k_11, k_12, k_13, k_15, k_20, k_60, k_75, k_80, k_127, k_128, k_255, k_256, k_600, k_1200, k_4000, k_20000, nI_leI, nI_ltI, nI_eq, nI_m1, Nat.not_lt_zero, Nat.zero_le, nI_add, pk_sub, nI_mul, nI_clamp, z_0, z_1, if_true, if_false, not_true_eq_false, not_false_eq_true, or_false, false_or, or_self, true_or, or_true, h3, h7i, h8i, c1, c2, g1, g2]
        rw [e1]; rfl
    · rw [show (if ln i = L ∧ cdv ln m i = c then some i else fnd ln m L c r (i + 1)) = fnd ln m L c r (i + 1) from if_neg (fun q => g1 q.1)]
      simp (disch := omega) only [lt_e, bd2_some, Option.bind_some, k_0, k_1, k_2, k_3, k_4, k_5, k_6, k_7, k_8, k_9, k_10, k_11, k_12, k_13, k_15, k_20, k_60, k_75, k_80, k_127, k_128, k_255, k_256, k_600, k_1200, k_4000, k_20000, nI_leI, nI_ltI, nI_eq, nI_m1, Nat.not_lt_zero, Nat.zero_le, nI_add, pk_sub, nI_mul, nI_clamp, z_0, z_1, if_true, if_false, not_true_eq_false, not_false_eq_true, or_false, false_or, or_self, true_or, or_true, h3, h7i, c1, c2, g1]
      rw [e1]; rfl
end
section
variable {t : Nat → Nat} {n mo sp dp : Nat} {M0 M : Mm} {out : List Nat} {p co fc e : Nat} {fp : Int32} {sy ln : Nat → Nat} {m : Nat}
theorem bitAt_lt (b : Nat) : bitAt t b < 2 := Nat.mod_lt _ (by decide)
/-- one bit taken, with a byte at hand -/
theorem e_b70 (B : Bc t n mo sp dp M0) (hm : m ≤ 8) (hl : ∀ k, k < m → ln k ≤ 7) (q26 : Int32 → Int32 → Int32 → Int32 → Mm → Option (Int32 × Mm)) (fs : Int32) {b L code : Nat} (hL : 1 ≤ L ∧ L ≤ 7) (hcode : code < 100) (hb : b / 8 < n) (h : CI M0 M out p co fc fp) (hT : TV sy ln m M) (h10 : M.1 5 10 = nI (t (b / 8))) (h11 : M.1 5 11 = nI (8 - b % 8)) (hsy : ∀ k, k < m → sy k < 256) :
    ∃ M', CI M0 M' out p co fc fp ∧ TV sy ln m M' ∧ M'.1 5 10 = nI (t (b / 8)) ∧ M'.1 5 11 = nI (7 - b % 8) ∧ rX4_nextSymbol_b70 q26 (nI e) fs (nI code) (nI L) M = match fnd ln m L (2 * code + bitAt t b) m 0 with
      | some k => some (nI (sy k), M')
      | none => q26 (nI e) fs (nI (2 * code + bitAt t b)) (nI (L + 1)) M' := by
  have hB2 := B.2.1 (b / 8) hb
  have hbl := bitAt_lt (t := t) b
  refine ⟨st M 5 11 (nI (7 - b % 8)), h.bit 11 (by decide) _, hT.mv D1.st, by rw [st_eq, upd_n (by decide)]; exact h10, by rw [st_eq, upd_s], ?_⟩
  have hT1 := hT.mv (M' := st M 5 11 (nI (7 - b % 8))) D1.st
  unfold rX4_nextSymbol_b70
  have e1 : M.1 5 11 - 1 = nI (7 - b % 8) := by rw [h11, k_1, pk_sub (by omega)]; congr 1; omega
  rw [lt_e, e1, lt_e]
  have e2 : (2 : Int32) * nI code + (((st M 5 11 (nI (7 - b % 8))).1 5 10 >>> ((st M 5 11 (nI (7 - b % 8))).1 5 11 &&& 31)) &&& 1) = nI (2 * code + bitAt t b) := by
    rw [st_eq, upd_s, upd_n (by decide), h10, shr_b (by omega) (by omega), and_1, k_2, nI_mul, nI_add]
    · rfl
    · exact Nat.lt_of_le_of_lt (Nat.div_le_self _ _) (by omega)
  rw [e2]
  unfold rX5_symbolOf
  rw [k_0, lp_sym hm hl hT1 L (2 * code + bitAt t b) hL (by omega) m FU 0 (by unfold FU; omega) (by omega), bd2_some]
  cases hfn : fnd ln m L (2 * code + bitAt t b) m 0 with
  | none => simp only [if_true, lt_e, k_1, nI_add]
  | some k =>
    have hk : k < m := by
      have : ∀ (r i k : Nat), fnd ln m L (2 * code + bitAt t b) r i = some k → k < i + r := by
        intro r
        induction r with
        | zero => intro i k h; cases h
        | succ r ih =>
          intro i k h
          rw [fnd] at h
          split at h
          · cases h; omega
          · have := ih (i + 1) k h; omega
      have := this m 0 k hfn; omega
    have := hsy k hk
    simp only [if_neg (nI_nm (show sy k < 2 ^ 31 by omega))]
/-- where the bits are read: s bytes read, the byte at hand -/
def BV (t : Nat → Nat) (b s : Nat) (M : Mm) : Prop := (b % 8 = 0 ∧ s = b / 8 ∧ M.1 5 11 = nI 0 ∧ ∃ x, x < 256 ∧ M.1 5 10 = nI x) ∨ (b % 8 ≠ 0 ∧ s = b / 8 + 1 ∧ M.1 5 11 = nI (8 - b % 8) ∧ M.1 5 10 = nI (t (b / 8)))
theorem BV.step {b : Nat} (h10 : M.1 5 10 = nI (t (b / 8))) (h11 : M.1 5 11 = nI (7 - b % 8)) (ht : t (b / 8) < 256) : BV t (b + 1) (b / 8 + 1) M := by
  by_cases h : (b + 1) % 8 = 0
  · exact Or.inl ⟨h, by omega, by rw [h11]; congr 1; omega, t (b / 8), ht, h10⟩
  · exact Or.inr ⟨h, by omega, by rw [h11]; congr 1; omega, by rw [h10]; congr 2; omega⟩
theorem lp_next (B : Bc t n mo sp dp M0) (hm : m ≤ 8) (hl : ∀ k, k < m → ln k ≤ 7) (he : e ≤ n) (hsy : ∀ k, k < m → sy k < 256) (fs : Nat) : ∀ (r fuel L code b s : Nat) (M : Mm), r < fuel → L + r = kL ln m + 1 → 1 ≤ L → code < 2 ^ (L - 1) → CI M0 M out s co 0 (-1) → s ≤ e → TV sy ln m M → BV t b s M →
    ∃ M' s', rX4_nextSymbol_b26 fuel (nI e) (nI fs) (nI code) (nI L) M = some (if (aSym t e m sy ln r L code b).1 = 0 then nI (aSym t e m sy ln r L code b).2.1 else -1, M') ∧ CI M0 M' out s' co (aSym t e m sy ln r L code b).1 (if (aSym t e m sy ln r L code b).1 = 0 then -1 else if (aSym t e m sy ln r L code b).1 = 3 then nI e else nI fs) ∧
      ((aSym t e m sy ln r L code b).1 = 0 → s' ≤ e ∧ TV sy ln m M' ∧ BV t (aSym t e m sy ln r L code b).2.2 s' M' ∧ (aSym t e m sy ln r L code b).2.1 < 256) ∧ ((aSym t e m sy ln r L code b).1 = 0 ∨ (aSym t e m sy ln r L code b).1 = 3 ∨ (aSym t e m sy ln r L code b).1 = 7) := by
  have hk7 := kL_le ln m hl
  have b1 := B.1
  intro r
  induction r with
  | zero =>
    intro fuel L code b s M hf hi hL1 hcode h hs hT hb
    obtain ⟨f, rfl⟩ : ∃ f, fuel = f + 1 := ⟨fuel - 1, by omega⟩
    obtain ⟨M1, e1, h1⟩ := ev_fail (c := 7) (w := nI fs) h (by decide) (by decide)
    refine ⟨M1, s, ?_, h1, fun q => (by cases q), Or.inr (Or.inr rfl)⟩
    show rX4_nextSymbol_b26_s (rX4_nextSymbol_b26 f) _ _ _ _ M = _
    unfold rX4_nextSymbol_b26_s
    have c1 : kL ln m < L := by omega
    have h4 := hT.2.1
    rw [h4, if_pos ((nI_ltI (by omega) (by omega)).mpr c1), k_7, e1]
    rfl
  | succ r ih =>
    intro fuel L code b s M hf hi hL1 hcode h hs hT hb
    obtain ⟨f, rfl⟩ : ∃ f, fuel = f + 1 := ⟨fuel - 1, by omega⟩
    have c1 : ¬ kL ln m < L := by omega
    have h4 := hT.2.1
    have hc2 : 2 ^ (L - 1) ≤ 2 ^ 6 := Nat.pow_le_pow_right (by decide) (by omega)
    have hbl := bitAt_lt (t := t) b
    have goal70 : ∀ (M1 : Mm), CI M0 M1 out (b / 8 + 1) co 0 (-1) → TV sy ln m M1 → M1.1 5 10 = nI (t (b / 8)) → M1.1 5 11 = nI (8 - b % 8) → b / 8 < e → rX4_nextSymbol_b26 (f + 1) (nI e) (nI fs) (nI code) (nI L) M = rX4_nextSymbol_b70 (rX4_nextSymbol_b26 f) (nI e) (nI fs) (nI code) (nI L) M1 →
        ∃ M' s', rX4_nextSymbol_b26 (f + 1) (nI e) (nI fs) (nI code) (nI L) M = some (if (aSym t e m sy ln (r + 1) L code b).1 = 0 then nI (aSym t e m sy ln (r + 1) L code b).2.1 else -1, M') ∧ CI M0 M' out s' co (aSym t e m sy ln (r + 1) L code b).1 (if (aSym t e m sy ln (r + 1) L code b).1 = 0 then -1 else if (aSym t e m sy ln (r + 1) L code b).1 = 3 then nI e else nI fs) ∧
        ((aSym t e m sy ln (r + 1) L code b).1 = 0 → s' ≤ e ∧ TV sy ln m M' ∧ BV t (aSym t e m sy ln (r + 1) L code b).2.2 s' M' ∧ (aSym t e m sy ln (r + 1) L code b).2.1 < 256) ∧ ((aSym t e m sy ln (r + 1) L code b).1 = 0 ∨ (aSym t e m sy ln (r + 1) L code b).1 = 3 ∨ (aSym t e m sy ln (r + 1) L code b).1 = 7) := by
      intro M1 k1 k2 k3 k4 hbe hq
      have tb := B.2.1 (b / 8) (by omega)
      obtain ⟨M2, g1, g2, g3, g4, g5⟩ := e_b70 (e := e) B hm hl (rX4_nextSymbol_b26 f) (nI fs) (b := b) (L := L) (code := code) (by omega) (by omega) (by omega) k1 k2 k3 k4 hsy
      rw [hq, g5]
      have hA : aSym t e m sy ln (r + 1) L code b = match fnd ln m L (2 * code + bitAt t b) m 0 with
          | some k => (0, sy k, b + 1)
          | none => aSym t e m sy ln r (L + 1) (2 * code + bitAt t b) (b + 1) := by rw [aSym, if_neg (by omega)]; rfl
      rw [hA]
      have g6 := BV.step g3 g4 tb
      cases hfn : fnd ln m L (2 * code + bitAt t b) m 0 with
      | some k =>
        have hk : k < m := by
          have : ∀ (r i k : Nat), fnd ln m L (2 * code + bitAt t b) r i = some k → k < i + r := by
            intro r
            induction r with
            | zero => intro i k h; cases h
            | succ r ih =>
              intro i k h
              rw [fnd] at h
              split at h
              · cases h; omega
              · have := ih (i + 1) k h; omega
          have := this m 0 k hfn; omega
        exact ⟨M2, b / 8 + 1, rfl, g1, fun _ => ⟨by omega, g2, g6, hsy k hk⟩, Or.inl rfl⟩
      | none =>
        have hp2 : 2 ^ (L + 1 - 1) = 2 * 2 ^ (L - 1) := by rw [show L + 1 - 1 = (L - 1) + 1 by omega, Nat.pow_succ]; omega
        exact ih f (L + 1) (2 * code + bitAt t b) (b + 1) (b / 8 + 1) M2 (by omega) (by omega) (by omega) (by rw [hp2]; omega) g1 (by omega) g2 g6
    have hunf : rX4_nextSymbol_b26 (f + 1) (nI e) (nI fs) (nI code) (nI L) M = rX4_nextSymbol_b26_s (rX4_nextSymbol_b26 f) (nI e) (nI fs) (nI code) (nI L) M := rfl
    unfold rX4_nextSymbol_b26_s at hunf
    rw [h4, if_neg (by rw [nI_ltI (by omega) (by omega)]; exact c1)] at hunf
    rcases hb with ⟨z1, z2, z3, z4⟩ | ⟨z1, z2, z3, z4⟩
    · rw [z3, if_pos (show nI 0 = 0 from rfl)] at hunf
      by_cases c2 : e ≤ s
      · obtain ⟨M1, e1, h1⟩ := ev_next0 h c2 (by omega) (by omega) (by decide)
        have hA : aSym t e m sy ln (r + 1) L code b = (3, 0, b) := by rw [aSym, if_pos (by omega)]
        rw [hA]
        refine ⟨st M1 5 10 (-1), s, ?_, ?_⟩
        · rw [hunf, e1, bd2_some, lt_e, st_eq, upd_s, if_pos rfl]
          rfl
        · exact ⟨h1.bit 10 (by decide) _, fun q => (by cases q), Or.inr (Or.inl rfl)⟩
      · obtain ⟨M1, e1, h1⟩ := ev_next1 B h (e := e) (by omega) he
        have tb := B.2.1 s (by omega)
        rw [e1, bd2_some, lt_e, st_eq, upd_s, if_neg (nI_nm (by omega)), lt_e] at hunf
        refine goal70 _ ?_ ?_ ?_ ?_ (by omega) hunf
        · rw [← z2]; exact (h1.bit 10 (by decide) _).bit 11 (by decide) _
        · exact hT.mv (((d_next e1).tr D1.st).tr D1.st)
        · rw [st_eq, upd_n (by decide), st_eq, upd_s, ← z2]
        · rw [st_eq, upd_s, z1]; rfl
    · have : ¬ nI (8 - b % 8) = 0 := nI_ne0 (by omega) (by omega)
      rw [z3, if_neg this] at hunf
      exact goal70 M (by rw [← z2]; exact h) hT z4 z3 (by omega) hunf
end
