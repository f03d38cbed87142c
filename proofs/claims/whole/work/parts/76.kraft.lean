/-- the first code behind those of length L and less -/
def kq (ln : Nat → Nat) (m L : Nat) : Nat := bs ln m L + (if L = 0 then 0 else cn ln L m)
def kSL (ln : Nat → Nat) (L : Nat) : Nat → Nat
  | 0 => 0
  | k + 1 => kSL ln L k + (if 0 < ln k ∧ ln k ≤ L then 128 / 2 ^ ln k else 0)
section
variable {ln : Nat → Nat} {m : Nat}
theorem kSL_succ (L : Nat) : ∀ k, kSL ln (L + 1) k = kSL ln L k + cn ln (L + 1) k * (128 / 2 ^ (L + 1))
  | 0 => by simp [kSL, cn]
  | k + 1 => by
    rw [kSL, kSL, cn, kSL_succ L k]
    by_cases h : ln k = L + 1
    · rw [if_pos ⟨by omega, by omega⟩, if_neg (by omega), if_pos h, h, Nat.add_mul, Nat.one_mul]; omega
    · rw [if_neg h]
      by_cases h2 : 0 < ln k ∧ ln k ≤ L
      · rw [if_pos h2, if_pos ⟨h2.1, by omega⟩]
        simp only [Nat.add_zero]
        omega
      · rw [if_neg h2, if_neg (by omega)]
        simp only [Nat.add_zero]
theorem p128 : ∀ L, L < 7 → 128 / 2 ^ (L + 1) = 2 ^ (7 - (L + 1)) := by decide
theorem kSL_kq : ∀ L, L ≤ 7 → kSL ln L m = kq ln m L * 2 ^ (7 - L)
  | 0, _ => by
    have : ∀ k, kSL ln 0 k = 0 := by
      intro k
      induction k with
      | zero => rfl
      | succ k ih => rw [kSL, ih, if_neg (by omega)]
    rw [this]; simp [kq, bs]
  | L + 1, h => by
    have hk : kq ln m (L + 1) = 2 * kq ln m L + cn ln (L + 1) m := by
      unfold kq
      rw [if_neg (show ¬ L + 1 = 0 by omega)]
      rfl
    rw [kSL_succ, kSL_kq L (by omega), p128 L (by omega), hk, show 7 - L = (7 - (L + 1)) + 1 by omega, Nat.pow_succ, Nat.add_mul]
    generalize 2 ^ (7 - (L + 1)) = z
    rw [Nat.mul_comm z 2, ← Nat.mul_assoc, Nat.mul_comm (kq ln m L) 2]
theorem kSL_all {L : Nat} : ∀ k, (∀ j, j < k → ln j ≤ L) → kSL ln L k = kS ln k
  | 0, _ => rfl
  | k + 1, h => by
    rw [kSL, kS, kSL_all k (fun j hj => h j (by omega))]
    have := h k (by omega)
    by_cases h2 : 0 < ln k
    · rw [if_pos ⟨h2, this⟩, if_pos h2]
    · rw [if_neg (fun q => h2 q.1), if_neg h2]
theorem kq_full (hl : ∀ k, k < m → ln k ≤ 7) (h : kS ln m = 128) : kq ln m (kL ln m) = 2 ^ kL ln m := by
  have h7 := kL_le ln m hl
  have h1 := kSL_kq (ln := ln) (m := m) (kL ln m) h7
  rw [kSL_all (L := kL ln m) m (fun j hj => kL_ge ln m j hj), h] at h1
  have h2 : (128 : Nat) = 2 ^ kL ln m * 2 ^ (7 - kL ln m) := by rw [← Nat.pow_add, show kL ln m + (7 - kL ln m) = 7 by omega]
  rw [h2] at h1
  exact (Nat.eq_of_mul_eq_mul_right (Nat.pow_pos (by decide)) h1).symm
theorem cn_hit (L : Nat) : ∀ (m x : Nat), x < cn ln L m → ∃ k, k < m ∧ ln k = L ∧ cn ln L k = x
  | 0, x, h => by simp [cn] at h
  | m + 1, x, h => by
    rw [cn] at h
    by_cases h1 : x < cn ln L m
    · obtain ⟨k, a, b, c⟩ := cn_hit L m x h1
      exact ⟨k, by omega, b, c⟩
    · by_cases h2 : ln m = L
      · rw [if_pos h2] at h
        exact ⟨m, by omega, h2, by omega⟩
      · rw [if_neg h2] at h; omega
theorem code_hit {L c : Nat} (hL : 1 ≤ L) (h1 : bs ln m L ≤ c) (h2 : c < kq ln m L) : ∃ k, k < m ∧ ln k = L ∧ cdv ln m k = c := by
  rw [kq, if_neg (by omega)] at h2
  obtain ⟨k, a, b, e⟩ := cn_hit (ln := ln) L m (c - bs ln m L) (by omega)
  exact ⟨k, a, b, by rw [cdv, b, e]; omega⟩
theorem fnd_some {L c : Nat} : ∀ (r i k : Nat), fnd ln m L c r i = some k → k < i + r ∧ ln k = L ∧ cdv ln m k = c
  | 0, i, k, h => by cases h
  | r + 1, i, k, h => by
    rw [fnd] at h
    by_cases h1 : ln i = L ∧ cdv ln m i = c
    · rw [if_pos h1] at h; cases h; exact ⟨by omega, h1⟩
    · rw [if_neg h1] at h
      have := fnd_some r (i + 1) k h
      exact ⟨by omega, this.2⟩
theorem fnd_none {L c : Nat} : ∀ (r i : Nat), fnd ln m L c r i = none → ∀ k, i ≤ k → k < i + r → ¬ (ln k = L ∧ cdv ln m k = c)
  | 0, i, h, k, a, b => by omega
  | r + 1, i, h, k, a, b => by
    rw [fnd] at h
    by_cases h1 : ln i = L ∧ cdv ln m i = c
    · rw [if_pos h1] at h; cases h
    · rw [if_neg h1] at h
      rcases Nat.eq_or_lt_of_le a with q | q
      · rw [← q]; exact h1
      · exact fnd_none r (i + 1) h k q (by omega)
/-- not found: behind all codes of this length -/
theorem nf_ge {L c : Nat} (hL : 1 ≤ L) (h1 : bs ln m L ≤ c) (h : fnd ln m L c m 0 = none) : kq ln m L ≤ c := by
  rcases Nat.lt_or_ge c (kq ln m L) with q | q
  · obtain ⟨k, a, b⟩ := code_hit hL h1 q
    exact absurd b (fnd_none m 0 h k (by omega) (by omega))
  · exact q
/-- a prefix that is no code yet is the beginning of one -/
theorem begins_some (hl : ∀ k, k < m → ln k ≤ 7) (h : kS ln m = 128) {L x : Nat} (hL : L ≤ kL ln m) (hx : x < 2 ^ L) (hk : kq ln m L ≤ x) : ∃ k, k < m ∧ L < ln k ∧ cdv ln m k / 2 ^ (ln k - L) = x := by
  have hf := kq_full hl h
  have key : ∀ j, L + j ≤ kL ln m → kq ln m (L + j) ≤ x * 2 ^ j ∨ ∃ k, k < m ∧ L < ln k ∧ cdv ln m k / 2 ^ (ln k - L) = x := by
    intro j
    induction j with
    | zero => intro _; left; simpa using hk
    | succ j ih =>
      intro hj
      rcases ih (by omega) with q | q
      · have hb : bs ln m (L + j + 1) ≤ x * 2 ^ (j + 1) := by
          rw [bs, Nat.pow_succ]
          have q2 : kq ln m (L + j) ≤ x * 2 ^ j := q
          unfold kq at q2
          rw [← Nat.mul_assoc]; omega
        rcases Nat.lt_or_ge (x * 2 ^ (j + 1)) (kq ln m (L + j + 1)) with q3 | q3
        · obtain ⟨k, a, b, e⟩ := code_hit (by omega) hb q3
          refine Or.inr ⟨k, a, by omega, ?_⟩
          rw [e, b, show L + j + 1 - L = j + 1 by omega, Nat.mul_div_cancel _ (Nat.pow_pos (by decide))]
        · exact Or.inl q3
      · exact Or.inr q
  rcases key (kL ln m - L) (by omega) with q | q
  · rw [show L + (kL ln m - L) = kL ln m by omega, hf] at q
    have : x * 2 ^ (kL ln m - L) < 2 ^ L * 2 ^ (kL ln m - L) := Nat.mul_lt_mul_of_pos_right hx (Nat.pow_pos (by decide))
    rw [← Nat.pow_add, show L + (kL ln m - L) = kL ln m by omega] at this
    omega
  · exact q
/-- whether a code begins so, as the reference gathers it -/
def bgn (ln : Nat → Nat) (m L c : Nat) : Nat → Nat → Nat → Nat
  | 0, _, b => b
  | r + 1, i, b => bgn ln m L c r (i + 1) (if b = 0 then (if L < ln i ∧ cdv ln m i / 2 ^ (ln i - L) = c then 1 else 0) else 1)
theorem bgn_1 {L c : Nat} : ∀ (r i : Nat), bgn ln m L c r i 1 = 1
  | 0, _ => rfl
  | r + 1, i => by rw [bgn, if_neg (by decide)]; exact bgn_1 r (i + 1)
theorem bgn_y {L c : Nat} : ∀ (r i : Nat), (∃ k, i ≤ k ∧ k < i + r ∧ L < ln k ∧ cdv ln m k / 2 ^ (ln k - L) = c) → bgn ln m L c r i 0 = 1
  | 0, i, ⟨k, a, b, _⟩ => by omega
  | r + 1, i, ⟨k, a, b, e⟩ => by
    rw [bgn, if_pos rfl]
    by_cases h : L < ln i ∧ cdv ln m i / 2 ^ (ln i - L) = c
    · rw [if_pos h]; exact bgn_1 r (i + 1)
    · rw [if_neg h]
      refine bgn_y r (i + 1) ⟨k, ?_, by omega, e⟩
      rcases Nat.eq_or_lt_of_le a with q | q
      · exact absurd (by rw [q]; exact e) h
      · exact q
theorem bgn_n {L c : Nat} : ∀ (r i : Nat), (∀ k, i ≤ k → k < i + r → ¬ L < ln k) → bgn ln m L c r i 0 = 0
  | 0, _, _ => rfl
  | r + 1, i, h => by
    rw [bgn, if_pos rfl, if_neg (fun q => h i (by omega) (by omega) q.1)]
    exact bgn_n r (i + 1) (fun k a b => h k (by omega) (by omega))
/-- the last length, where one alone is used -/
def klv (ln : Nat → Nat) : Nat → Nat
  | 0 => 0
  | k + 1 => if 0 < ln k then ln k else klv ln k
theorem klv_0 (ln : Nat → Nat) : ∀ k, kU ln k = 0 → klv ln k = 0 ∧ kL ln k = 0
  | 0, _ => ⟨rfl, rfl⟩
  | k + 1, h => by
    rw [kU] at h
    by_cases h1 : 0 < ln k
    · rw [if_pos h1] at h; omega
    · rw [if_neg h1] at h
      have := klv_0 ln k (by omega)
      rw [klv, if_neg h1, kL, if_neg (by omega)]
      exact this
theorem klv_1 (ln : Nat → Nat) : ∀ k, kU ln k = 1 → klv ln k = kL ln k
  | 0, h => by simp [kU] at h
  | k + 1, h => by
    rw [kU] at h
    by_cases h1 : 0 < ln k
    · rw [if_pos h1] at h
      have := klv_0 ln k (by omega)
      rw [klv, if_pos h1, kL, this.2, if_pos h1]
    · rw [if_neg h1] at h
      have := klv_1 ln k (by omega)
      rw [klv, if_neg h1, kL, if_neg (by omega)]
      exact this
theorem klv_le (ln : Nat → Nat) : ∀ k, (∀ j, j < k → ln j ≤ 7) → klv ln k ≤ 7
  | 0, _ => by simp [klv]
  | k + 1, h => by
    have := klv_le ln k (fun j hj => h j (by omega))
    have := h k (by omega)
    rw [klv]; split <;> omega
end
