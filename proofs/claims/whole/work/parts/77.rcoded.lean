section
variable {t : Nat → Nat} {n mo sp d e : Nat} {M0 M : Mm} {out : List Nat} {p co fc : Nat} {fp : Int32} {ln sy : Nat → Nat} {m : Nat}
theorem RI.tab (h : RI M0 M out co fc fp) {M1 : Mm} (hd : D1 M M1 47) : RI M0 M1 out co fc fp := by
  obtain ⟨h1, h2, h3, h4, h5, h6, h7, h8⟩ := h
  refine ⟨fun c a b d => ?_, fun j a b d e => ?_, hd.2.trans h3, ?_, ?_, ?_, ?_, ?_⟩
  · rw [hd.1 c d]; exact h1 c a b d
  · rw [hd.1 31 (by decide)]; exact h2 j a b d e
  · rw [hd.1 31 (by decide)]; exact h4
  · rw [hd.1 31 (by decide)]; exact h5
  · rw [hd.1 31 (by decide)]; exact h6
  · rw [hd.1 31 (by decide)]; exact h7
  · rw [hd.1 33 (by decide)]; exact h8
theorem lr_sum {at_ : Nat} (hm : m ≤ 8) (ha : at_ + m ≤ 1200) (hl : ∀ k, k < m → ln k ≤ 7) (h32 : ∀ k, k < m → M.1 32 (at_ + k) = nI (ln k)) : ∀ (r fuel i : Nat), r < fuel → i + r = m → rX7_codesOf_b11 fuel (nI at_) (nI m) (nI (kS ln i)) (nI (kU ln i)) (nI (klv ln i)) (nI i) M = rX7_codesOf_b87 FU (nI at_) (nI m) (nI (kS ln m)) (nI (kU ln m)) (nI (klv ln m)) (nI 0) (nI 1) M := by
  intro r
  induction r with
  | zero =>
    intro fuel i hf hi
    obtain ⟨f, rfl⟩ : ∃ f, fuel = f + 1 := ⟨fuel - 1, by omega⟩
    have him : i = m := by omega
    subst him
    show rX7_codesOf_b11_s (rX7_codesOf_b11 f) _ _ _ _ _ _ M = _
    unfold rX7_codesOf_b11_s
    rw [if_pos ((nI_leI (by omega) (by omega)).mpr (by omega))]
    rfl
  | succ r ih =>
    intro fuel i hf hi
    obtain ⟨f, rfl⟩ : ∃ f, fuel = f + 1 := ⟨fuel - 1, by omega⟩
    have e1 := ih f (i + 1) (by omega) (by omega)
    have hli := hl i (by omega)
    have h32i := h32 i (by omega)
    have b1 := kS_le ln i
    have b2 := kU_le ln i
    rw [kS, kU, klv] at e1
    show rX7_codesOf_b11_s (rX7_codesOf_b11 f) _ _ _ _ _ _ M = _
    unfold rX7_codesOf_b11_s rX7_codesOf_b44 rX7_codesOf_b58 rX7_codesOf_b73
    rw [if_neg (by rw [nI_leI (by omega) (by omega)]; omega), nI_add, if_neg (nocl (by omega) (by decide)), nI_clamp (by omega), h32i, lt_e]
    by_cases c1 : 0 < ln i
    · rw [if_pos c1, if_pos c1, if_pos c1] at e1
      have z : ¬ nI (ln i) ≤ 0 := by rw [k_0, nI_leI (by omega) (by omega)]; omega
      simp only [if_neg z, lt_e]
      rw [show (128 : Int32) = nI 128 from rfl, shr_b (by decide) (by omega), nI_add, k_1, nI_add, nI_add]
      exact e1
    · rw [if_neg c1, if_neg c1, if_neg c1, Nat.add_zero, Nat.add_zero] at e1
      have z : nI (ln i) ≤ 0 := by rw [k_0, nI_leI (by omega) (by omega)]; omega
      simp only [if_pos z, lt_e]
      rw [k_0, nI_add, nI_add, Nat.add_zero, Nat.add_zero, k_1, nI_add]
      exact e1
theorem lr_mk {at_ : Nat} (hm : m ≤ 8) (ha : at_ + m ≤ 1200) (hl : ∀ k, k < m → ln k ≤ 7) (L : Nat) (hL : 1 ≤ L ∧ L ≤ 7) (x3 x4 x5 : Int32) (q87 : Int32 → Int32 → Int32 → Int32 → Int32 → Int32 → Int32 → Mm → Option (Int32 × Mm)) : ∀ (r fuel i : Nat) (M : Mm), r < fuel → i + r = m → (∀ k, k < m → M.1 32 (at_ + k) = nI (ln k)) → (∀ k, k < m → 1 ≤ ln k → (ln k < L ∨ (ln k = L ∧ k < i)) → M.1 47 k = nI (cdv ln m k)) →
    ∃ M', rX7_codesOf_b103 q87 fuel (nI at_) (nI m) x3 x4 x5 (nI (bs ln m L + cn ln L i)) (nI L) (nI i) M = q87 (nI at_) (nI m) x3 x4 x5 (nI (bs ln m L + cn ln L m)) (nI (L + 1)) M' ∧ D1 M M' 47 ∧ (∀ k, k < m → 1 ≤ ln k → ln k ≤ L → M'.1 47 k = nI (cdv ln m k)) := by
  intro r
  induction r with
  | zero =>
    intro fuel i M hf hi h7 h8
    obtain ⟨f, rfl⟩ : ∃ f, fuel = f + 1 := ⟨fuel - 1, by omega⟩
    have him : i = m := by omega
    subst him
    refine ⟨M, ?_, D1.rf, fun k hk h1 h2 => h8 k hk h1 (by omega)⟩
    show rX7_codesOf_b103_s q87 (rX7_codesOf_b103 q87 f) _ _ _ _ _ _ _ _ M = _
    unfold rX7_codesOf_b103_s
    rw [if_pos ((nI_leI (by omega) (by omega)).mpr (by omega)), lt_e, k_1, nI_add]
  | succ r ih =>
    intro fuel i M hf hi h7 h8
    obtain ⟨f, rfl⟩ : ∃ f, fuel = f + 1 := ⟨fuel - 1, by omega⟩
    have b1 := bs_le ln m hm L
    have b2 : 16 * 2 ^ L ≤ 16 * 2 ^ 7 := Nat.mul_le_mul_left _ (Nat.pow_le_pow_right (by decide) hL.2)
    have b3 := cn_le ln L i
    have h7i := h7 i (by omega)
    have hli := hl i (by omega)
    by_cases c3 : ln i = L
    · have hcn : cn ln L (i + 1) = cn ln L i + 1 := by rw [cn, if_pos c3]
      have hcd : cdv ln m i = bs ln m L + cn ln L i := by rw [cdv, c3]
      obtain ⟨M', e1, d1, g1⟩ := ih f (i + 1) (st M 47 i (nI (bs ln m L + cn ln L i))) (by omega) (by omega) (fun k hk => by rw [st_ne (by decide)]; exact h7 k hk) (fun k hk h1 h2 => by
        rw [st_eq]
        by_cases hki : k = i
        · rw [hki, upd_s, hcd]
        · rw [upd_n hki]; exact h8 k hk h1 (by omega))
      refine ⟨M', ?_, D1.st.tr d1, g1⟩
      rw [hcn, ← Nat.add_assoc] at e1
      show rX7_codesOf_b103_s q87 (rX7_codesOf_b103 q87 f) _ _ _ _ _ _ _ _ M = _
      unfold rX7_codesOf_b103_s rX7_codesOf_b135
      rw [if_neg (by rw [nI_leI (by omega) (by omega)]; omega), nI_add, if_neg (nocl (by omega) (by decide)), nI_clamp (n := at_ + i) (by omega), h7i, c3, if_pos rfl, if_neg (nocl (a := i) (by omega) (by decide)), nI_clamp (n := i) (by omega), lt_e, lt_e, lt_e, k_1, nI_add, nI_add]
      exact e1
    · have hcn : cn ln L (i + 1) = cn ln L i := by rw [cn, if_neg c3, Nat.add_zero]
      obtain ⟨M', e1, d1, g1⟩ := ih f (i + 1) M (by omega) (by omega) h7 (fun k hk h1 h2 => h8 k hk h1 (by
        rcases h2 with h2 | h2
        · exact Or.inl h2
        · refine Or.inr ⟨h2.1, ?_⟩
          rcases Nat.lt_or_ge k i with h4 | h4
          · exact h4
          · exact absurd (by rw [show i = k by omega]; exact h2.1) c3))
      refine ⟨M', ?_, d1, g1⟩
      rw [hcn] at e1
      show rX7_codesOf_b103_s q87 (rX7_codesOf_b103 q87 f) _ _ _ _ _ _ _ _ M = _
      unfold rX7_codesOf_b103_s rX7_codesOf_b135
      rw [if_neg (by rw [nI_leI (by omega) (by omega)]; omega), nI_add, if_neg (nocl (by omega) (by decide)), nI_clamp (n := at_ + i) (by omega), h7i, if_neg (by rw [nI_eq (by omega) (by omega)]; exact c3), lt_e, k_1, nI_add]
      exact e1
theorem lr_mks {at_ : Nat} (hm : m ≤ 8) (ha : at_ + m ≤ 1200) (hl : ∀ k, k < m → ln k ≤ 7) : ∀ (r fuel L : Nat) (M : Mm), r < fuel → L + r = 7 → (∀ k, k < m → M.1 32 (at_ + k) = nI (ln k)) → (∀ k, k < m → 1 ≤ ln k → ln k ≤ L → M.1 47 k = nI (cdv ln m k)) →
    ∃ M', D1 M M' 47 ∧ (∀ k, k < m → 1 ≤ ln k → M'.1 47 k = nI (cdv ln m k)) ∧ (kS ln m = 128 ∨ (kU ln m = 1 ∧ kL ln m = 1) → rX7_codesOf_b87 fuel (nI at_) (nI m) (nI (kS ln m)) (nI (kU ln m)) (nI (klv ln m)) (nI (kq ln m L)) (nI (L + 1)) M = some (1, M')) ∧ (¬ (kS ln m = 128 ∨ (kU ln m = 1 ∧ kL ln m = 1)) → rX7_codesOf_b87 fuel (nI at_) (nI m) (nI (kS ln m)) (nI (kU ln m)) (nI (klv ln m)) (nI (kq ln m L)) (nI (L + 1)) M = some (0, M')) := by
  intro r
  induction r with
  | zero =>
    intro fuel L M hf hi h7 h8
    obtain ⟨f, rfl⟩ : ∃ f, fuel = f + 1 := ⟨fuel - 1, by omega⟩
    have hL : L = 7 := by omega
    subst hL
    have b1 := kS_le ln m
    have b2 := kU_le ln m
    have b3 := klv_le ln m hl
    have hu : rX7_codesOf_b87 (f + 1) (nI at_) (nI m) (nI (kS ln m)) (nI (kU ln m)) (nI (klv ln m)) (nI (kq ln m 7)) (nI (7 + 1)) M = rX7_codesOf_b87_s (rX7_codesOf_b87 f) (nI at_) (nI m) (nI (kS ln m)) (nI (kU ln m)) (nI (klv ln m)) (nI (kq ln m 7)) (nI (7 + 1)) M := rfl
    unfold rX7_codesOf_b87_s rX7_codesOf_b166 at hu
    rw [if_pos (by decide), k_128, k_1] at hu
    refine ⟨M, D1.rf, fun k hk h1 => h8 k hk h1 (by have := hl k hk; omega), fun hg => ?_, fun hg => ?_⟩
    · rw [hu]
      by_cases g1 : kS ln m = 128
      · rw [g1, if_pos rfl]; rfl
      · obtain ⟨g2, g3⟩ : kU ln m = 1 ∧ kL ln m = 1 := by omega
        rw [if_neg (by rw [nI_eq (by omega) (by omega)]; exact g1), g2, if_pos rfl, klv_1 ln m g2, g3, if_pos rfl]; rfl
    · rw [hu]
      have g1 : ¬ kS ln m = 128 := by omega
      rw [if_neg (by rw [nI_eq (by omega) (by omega)]; exact g1)]
      by_cases g2 : kU ln m = 1
      · have g3 : ¬ kL ln m = 1 := by omega
        rw [g2, if_pos rfl, klv_1 ln m g2, if_neg (by rw [nI_eq (by have := kL_le ln m hl; omega) (by omega)]; exact g3)]; rfl
      · rw [if_neg (by rw [nI_eq (by omega) (by omega)]; exact g2)]; rfl
  | succ r ih =>
    intro fuel L M hf hi h7 h8
    obtain ⟨f, rfl⟩ : ∃ f, fuel = f + 1 := ⟨fuel - 1, by omega⟩
    obtain ⟨M1, e1, d1, g1⟩ := lr_mk hm ha hl (L + 1) (by omega) (nI (kS ln m)) (nI (kU ln m)) (nI (klv ln m)) (rX7_codesOf_b87 f) m FU 0 M (by unfold FU; omega) (by omega) h7 (fun k hk h1 h2 => h8 k hk h1 (by omega))
    obtain ⟨M2, d2, g2, g3, g4⟩ := ih f (L + 1) M1 (by omega) (by omega) (fun k hk => by rw [d1.1 32 (by decide)]; exact h7 k hk) g1
    have hu : rX7_codesOf_b87 (f + 1) (nI at_) (nI m) (nI (kS ln m)) (nI (kU ln m)) (nI (klv ln m)) (nI (kq ln m L)) (nI (L + 1)) M = rX7_codesOf_b87 f (nI at_) (nI m) (nI (kS ln m)) (nI (kU ln m)) (nI (klv ln m)) (nI (kq ln m (L + 1))) (nI (L + 1 + 1)) M1 := by
      show rX7_codesOf_b87_s (rX7_codesOf_b87 f) _ _ _ _ _ _ _ M = _
      unfold rX7_codesOf_b87_s
      have hb : bs ln m (L + 1) = kq ln m L * 2 := by rw [Nat.mul_comm]; rfl
      have hq1 : kq ln m (L + 1) = bs ln m (L + 1) + cn ln (L + 1) m := by unfold kq; rw [if_neg (show ¬ L + 1 = 0 by omega)]
      rw [cn, Nat.add_zero, hb] at e1
      rw [if_neg (by rw [k_7, nI_ltI (by omega) (by omega)]; omega), lt_e, k_2, nI_mul, k_0, e1, hq1, hb]
    rw [hu]
    exact ⟨M2, d1.tr d2, g2, g3, g4⟩
theorem r_codes {at_ : Nat} (hm : m ≤ 8) (ha : at_ + m ≤ 1200) (hl : ∀ k, k < m → ln k ≤ 7) (h32 : ∀ k, k < m → M.1 32 (at_ + k) = nI (ln k)) : ∃ M', D1 M M' 47 ∧ (∀ k, k < m → 1 ≤ ln k → M'.1 47 k = nI (cdv ln m k)) ∧ (kS ln m = 128 ∨ (kU ln m = 1 ∧ kL ln m = 1) → rX7_codesOf (nI at_) (nI m) M = some (1, M')) ∧ (¬ (kS ln m = 128 ∨ (kU ln m = 1 ∧ kL ln m = 1)) → rX7_codesOf (nI at_) (nI m) M = some (0, M')) := by
  have e1 := lr_sum (M := M) hm ha hl h32 m FU 0 (by unfold FU; omega) (by omega)
  have hu : rX7_codesOf (nI at_) (nI m) M = rX7_codesOf_b87 FU (nI at_) (nI m) (nI (kS ln m)) (nI (kU ln m)) (nI (klv ln m)) (nI 0) (nI 1) M := e1
  rw [hu]
  exact lr_mks hm ha hl 7 FU 0 M (by unfold FU; omega) (by omega) h32 (fun k hk h1 h2 => by omega)
end
