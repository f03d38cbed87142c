/-- the lengths of a table: the first bad one -/
def aLen (t : Nat → Nat) (e at_ : Nat) : Nat → Nat → Option (Nat × Nat)
  | 0, _ => none
  | r + 1, i => if e ≤ at_ + i then some (3, e) else if 7 < t (at_ + i) then some (6, at_ + i) else aLen t e at_ r (i + 1)
def kS (ln : Nat → Nat) : Nat → Nat
  | 0 => 0
  | k + 1 => kS ln k + (if 0 < ln k then 128 / 2 ^ ln k else 0)
def kU (ln : Nat → Nat) : Nat → Nat
  | 0 => 0
  | k + 1 => kU ln k + (if 0 < ln k then 1 else 0)
def kL (ln : Nat → Nat) : Nat → Nat
  | 0 => 0
  | k + 1 => if kL ln k < ln k then ln k else kL ln k
def cn (ln : Nat → Nat) (L : Nat) : Nat → Nat
  | 0 => 0
  | k + 1 => cn ln L k + (if ln k = L then 1 else 0)
def bs (ln : Nat → Nat) (m : Nat) : Nat → Nat
  | 0 => 0
  | L + 1 => 2 * (bs ln m L + (if L = 0 then 0 else cn ln L m))
def cdv (ln : Nat → Nat) (m k : Nat) : Nat := bs ln m (ln k) + cn ln (ln k) k
def kGood (ln : Nat → Nat) (m : Nat) : Prop := kS ln m = 128 ∨ (kU ln m = 1 ∧ kL ln m = 1)
/-- the first symbol of this code -/
def fnd (ln : Nat → Nat) (m L c : Nat) : Nat → Nat → Option Nat
  | 0, _ => none
  | r + 1, k => if ln k = L ∧ cdv ln m k = c then some k else fnd ln m L c r (k + 1)
def bitAt (t : Nat → Nat) (b : Nat) : Nat := t (b / 8) / 2 ^ (7 - b % 8) % 2
/-- a symbol read from bit b on: 0, the symbol, the bit behind it; or a fault -/
def aSym (t : Nat → Nat) (e m : Nat) (sy ln : Nat → Nat) : Nat → Nat → Nat → Nat → Nat × Nat × Nat
  | 0, _, _, b => (7, 0, b)
  | r + 1, L, code, b => if e ≤ b / 8 then (3, 0, b) else
    match fnd ln m L (2 * code + bitAt t b) m 0 with
    | some k => (0, sy k, b + 1)
    | none => aSym t e m sy ln r (L + 1) (2 * code + bitAt t b) (b + 1)
/-- n symbols; then the bits left must be 0: fault, place, bit, OUT -/
def aBits (t : Nat → Nat) (e m : Nat) (sy ln : Nat → Nat) : Nat → Nat → List Nat → Nat × Nat × Nat × List Nat
  | 0, b, out => if b % 8 ≠ 0 ∧ t (b / 8) % 2 ^ (8 - b % 8) ≠ 0 then (8, b / 8, b, out) else (0, 0, b, out)
  | r + 1, b, out => match aSym t e m sy ln (kL ln m) 1 0 b with
    | (0, s, b') => aBits t e m sy ln r b' (out ++ [s])
    | (3, _, _) => (3, e, b, out)
    | (_, _, _) => (7, b / 8, b, out)
def aCoded (t : Nat → Nat) (mo sp e p : Nat) (out : List Nat) (co : Nat) : Rs :=
  if e ≤ p + 1 then rf 3 e out co else if t (p + 1) < 1 ∨ 8 < t (p + 1) then rf 6 (p + 1) out co else if e < p + 2 + t (p + 1) then rf 3 e out co else
  match aLen t e (p + 2 + t (p + 1)) (t (p + 1)) 0 with
  | some q => rf q.1 q.2 out co
  | none =>
    if ¬ (kS (fun k => t (p + 2 + t (p + 1) + k)) (t (p + 1)) = 128 ∨ (kU (fun k => t (p + 2 + t (p + 1) + k)) (t (p + 1)) = 1 ∧ kL (fun k => t (p + 2 + t (p + 1) + k)) (t (p + 1)) = 1)) then rf 6 (p + 2 + t (p + 1)) out co else
    if e ≤ p + 2 + t (p + 1) + t (p + 1) then rf 3 e out co else
    if aPay mo sp out.length co (t (p + 2 + t (p + 1) + t (p + 1))) (3 + 2 * t (p + 1) + 2 * t (p + 2 + t (p + 1) + t (p + 1))) = 0 then
      let r := aBits t e (t (p + 1)) (fun k => t (p + 2 + k)) (fun k => t (p + 2 + t (p + 1) + k)) (t (p + 2 + t (p + 1) + t (p + 1))) (8 * (p + 2 + t (p + 1) + t (p + 1) + 1)) out
      if r.1 = 0 then rk ((r.2.2.1 + 7) / 8) r.2.2.2 (co + (3 + 2 * t (p + 1) + 2 * t (p + 2 + t (p + 1) + t (p + 1)))) else rf r.1 r.2.1 r.2.2.2 (co + (3 + 2 * t (p + 1) + 2 * t (p + 2 + t (p + 1) + t (p + 1))))
    else rf (aPay mo sp out.length co (t (p + 2 + t (p + 1) + t (p + 1))) (3 + 2 * t (p + 1) + 2 * t (p + 2 + t (p + 1) + t (p + 1)))) p out co
theorem cn_le (ln : Nat → Nat) (L : Nat) : ∀ k, cn ln L k ≤ k
  | 0 => Nat.le_refl 0
  | k + 1 => by
    have := cn_le ln L k
    rw [cn]
    split <;> omega
theorem bs_le (ln : Nat → Nat) (m : Nat) (hm : m ≤ 8) : ∀ L, bs ln m L + 16 ≤ 16 * 2 ^ L
  | 0 => by simp [bs]
  | L + 1 => by
    have := bs_le ln m hm L
    have h2 := cn_le ln L m
    rw [bs, Nat.pow_succ]
    split <;> omega
theorem kL_le (ln : Nat → Nat) : ∀ (m : Nat), (∀ k, k < m → ln k ≤ 7) → kL ln m ≤ 7
  | 0, _ => by simp [kL]
  | m + 1, h => by
    have h1 := kL_le ln m (fun k hk => h k (by omega))
    have h2 := h m (by omega)
    rw [kL]
    split <;> omega
theorem kL_ge (ln : Nat → Nat) : ∀ (m k : Nat), k < m → ln k ≤ kL ln m
  | 0, k, h => by omega
  | m + 1, k, h => by
    rw [kL]
    rcases Nat.lt_or_ge k m with h1 | h1
    · have := kL_ge ln m k h1
      split <;> omega
    · rw [show k = m by omega]
      split <;> omega
theorem and31 {l : Nat} (h : l < 32) : nI l &&& (31 : Int32) = nI l := by
  rw [pk_andN (k := 5) (by omega) (by decide), Nat.mod_eq_of_lt (by omega)]
theorem shr_b {a l : Nat} (ha : a < 2 ^ 31) (h : l < 8) : nI a >>> (nI l &&& (31 : Int32)) = nI (a / 2 ^ l) := by
  rw [and31 (by omega)]
  match l, h with
  | 0, _ => exact pk_shrN ha _ 0 (by decide)
  | 1, _ => exact pk_shrN ha _ 1 (by decide)
  | 2, _ => exact pk_shrN ha _ 2 (by decide)
  | 3, _ => exact pk_shrN ha _ 3 (by decide)
  | 4, _ => exact pk_shrN ha _ 4 (by decide)
  | 5, _ => exact pk_shrN ha _ 5 (by decide)
  | 6, _ => exact pk_shrN ha _ 6 (by decide)
  | 7, _ => exact pk_shrN ha _ 7 (by decide)
theorem mask_b {a l : Nat} (ha : a < 2 ^ 31) (h : l < 8) : nI a &&& ((1 : Int32) <<< (nI l &&& (31 : Int32)) - 1) = nI (a % 2 ^ l) := by
  rw [and31 (by omega)]
  match l, h with
  | 0, _ => exact pk_andN (by omega) 0 (by decide)
  | 1, _ => exact pk_andN (by omega) 1 (by decide)
  | 2, _ => exact pk_andN (by omega) 2 (by decide)
  | 3, _ => exact pk_andN (by omega) 3 (by decide)
  | 4, _ => exact pk_andN (by omega) 4 (by decide)
  | 5, _ => exact pk_andN (by omega) 5 (by decide)
  | 6, _ => exact pk_andN (by omega) 6 (by decide)
  | 7, _ => exact pk_andN (by omega) 7 (by decide)
theorem and_1 {a : Nat} (ha : a < 2 ^ 31) : nI a &&& (1 : Int32) = nI (a % 2) := pk_andN (by omega) 1 (by decide)
/-- only the cell c has changed -/
def D1 (M M1 : Mm) (c : Nat) : Prop := (∀ d, d ≠ c → M1.1 d = M.1 d) ∧ M1.2 = M.2
theorem D1.rf {M : Mm} {c : Nat} : D1 M M c := ⟨fun _ _ => rfl, rfl⟩
theorem D1.tr {A B C : Mm} {c : Nat} (h : D1 A B c) (k : D1 B C c) : D1 A C c := ⟨fun d hd => (k.1 d hd).trans (h.1 d hd), k.2.trans h.2⟩
theorem D1.st {M : Mm} {c j : Nat} {v : Int32} : D1 M (st M c j v) c := ⟨fun _ hd => st_ne hd, rfl⟩
section
variable {ln : Nat → Nat} {m : Nat}
/-- makeCodes, one length -/
theorem lp_mk (hm : m ≤ 8) (hl : ∀ k, k < m → ln k ≤ 7) (L : Nat) (hL : 1 ≤ L ∧ L ≤ 7) (q4 : Int32 → Int32 → Mm → Option Mm) : ∀ (r fuel i : Nat) (M : Mm), r < fuel → i + r = m → M.1 15 3 = nI m → (∀ k, k < m → M.1 17 k = nI (ln k)) → (∀ k, k < m → 1 ≤ ln k → (ln k < L ∨ (ln k = L ∧ k < i)) → M.1 18 k = nI (cdv ln m k)) →
    ∃ M', rX5_makeCodes_b18 q4 fuel (nI (bs ln m L + cn ln L i)) (nI L) (nI i) M = q4 (nI (bs ln m L + cn ln L m)) (nI (L + 1)) M' ∧ D1 M M' 18 ∧ (∀ k, k < m → 1 ≤ ln k → ln k ≤ L → M'.1 18 k = nI (cdv ln m k)) := by
  intro r
  induction r with
  | zero =>
    intro fuel i M hf hi h3 h7 h8
    obtain ⟨f, rfl⟩ : ∃ f, fuel = f + 1 := ⟨fuel - 1, by omega⟩
    have him : i = m := by omega
    subst him
    refine ⟨M, ?_, D1.rf, fun k hk h1 h2 => h8 k hk h1 (by omega)⟩
    show rX5_makeCodes_b18_s q4 (rX5_makeCodes_b18 q4 f) _ _ _ M = _
    unfold rX5_makeCodes_b18_s
    simp (disch := omega) only [lt_e, bd2_some, Option.bind_some, k_0, k_1, k_2, k_3, k_4, k_5, k_6, k_7, k_8, k_9, k_10, k_11, k_12, k_13, k_15, k_20, k_60, k_75, k_80, k_127, k_128, k_255, k_256, k_600, k_1200, k_4000, k_20000, nI_leI, nI_ltI, nI_eq, nI_m1, Nat.not_lt_zero, Nat.zero_le, nI_add, pk_sub, nI_mul, nI_clamp, z_0, z_1, if_true, if_false, not_true_eq_false, not_false_eq_true, or_false, false_or, or_self, true_or, or_true, h3, Nat.le_refl]
  | succ r ih =>
    intro fuel i M hf hi h3 h7 h8
    obtain ⟨f, rfl⟩ : ∃ f, fuel = f + 1 := ⟨fuel - 1, by omega⟩
    have b1 := bs_le ln m hm L
    have b2 : 16 * 2 ^ L ≤ 16 * 2 ^ 7 := Nat.mul_le_mul_left _ (Nat.pow_le_pow_right (by decide) hL.2)
    have b3 := cn_le ln L i
    have h7i := h7 i (by omega)
    have hli := hl i (by omega)
    have c1 : ¬ m ≤ i := by omega
    have c2 : ¬ 8 ≤ i := by omega
    by_cases c3 : ln i = L
    · have hcn : cn ln L (i + 1) = cn ln L i + 1 := by rw [cn, if_pos c3]
      have hcd : cdv ln m i = bs ln m L + cn ln L i := by rw [cdv, c3]
      obtain ⟨M', e1, d1, g1⟩ := ih f (i + 1) (st M 18 i (nI (bs ln m L + cn ln L i))) (by omega) (by omega) (by rw [st_ne (by decide)]; exact h3) (fun k hk => by rw [st_ne (by decide)]; exact h7 k hk) (fun k hk h1 h2 => by
        rw [st_eq]
        by_cases hki : k = i
        · rw [hki, upd_s, hcd]
        · rw [upd_n hki]; exact h8 k hk h1 (by omega))
      refine ⟨M', ?_, D1.st.tr d1, g1⟩
      show rX5_makeCodes_b18_s q4 (rX5_makeCodes_b18 q4 f) _ _ _ M = _
      unfold rX5_makeCodes_b18_s rX5_makeCodes_b46
      rw [hcn, ← Nat.add_assoc] at e1
      simp (disch := omega) only [lt_e, bd2_some, Option.bind_some, k_0, k_1, k_2, k_3, k_4, k_5, k_6, k_7, k_8, k_9, k_10, k_11, k_12, k_13, k_15, k_20, k_60, k_75, k_80, k_127, k_128, k_255, k_256, k_600, k_1200, k_4000, k_20000, nI_leI, nI_ltI, nI_eq, nI_m1, Nat.not_lt_zero, Nat.zero_le, nI_add, pk_sub, nI_mul, nI_clamp, z_0, z_1, if_true, if_false, not_true_eq_false, not_false_eq_true, or_false, false_or, or_self, true_or, or_true, h3, h7i, c1, c2, c3, e1]
    · have hcn : cn ln L (i + 1) = cn ln L i := by rw [cn, if_neg c3, Nat.add_zero]
      obtain ⟨M', e1, d1, g1⟩ := ih f (i + 1) M (by omega) (by omega) h3 h7 (fun k hk h1 h2 => h8 k hk h1 (by
        rcases h2 with h2 | h2
        · exact Or.inl h2
        · refine Or.inr ⟨h2.1, ?_⟩
          rcases Nat.lt_or_ge k i with h4 | h4
          · exact h4
          · exact absurd (by rw [show i = k by omega]; exact h2.1) c3))
      refine ⟨M', ?_, d1, g1⟩
      show rX5_makeCodes_b18_s q4 (rX5_makeCodes_b18 q4 f) _ _ _ M = _
      unfold rX5_makeCodes_b18_s rX5_makeCodes_b46
      rw [hcn] at e1
      simp (disch := omega) only [lt_e, bd2_some, Option.bind_some, k_0, k_1, k_2, k_3, k_4, k_5, k_6, k_7, k_8, k_9, k_10, k_11, k_12, k_13, k_15, k_20, k_60, k_75, k_80, k_127, k_128, k_255, k_256, k_600, k_1200, k_4000, k_20000, nI_leI, nI_ltI, nI_eq, nI_m1, Nat.not_lt_zero, Nat.zero_le, nI_add, pk_sub, nI_mul, nI_clamp, z_0, z_1, if_true, if_false, not_true_eq_false, not_false_eq_true, or_false, false_or, or_self, true_or, or_true, h3, h7i, c1, c2, c3, e1]
theorem lp_mks (hm : m ≤ 8) (hl : ∀ k, k < m → ln k ≤ 7) : ∀ (r fuel L : Nat) (M : Mm), r < fuel → L + r = kL ln m → M.1 15 3 = nI m → M.1 15 4 = nI (kL ln m) → (∀ k, k < m → M.1 17 k = nI (ln k)) → (∀ k, k < m → 1 ≤ ln k → ln k ≤ L → M.1 18 k = nI (cdv ln m k)) →
    ∃ M', rX5_makeCodes_b4 fuel (nI (bs ln m L + (if L = 0 then 0 else cn ln L m))) (nI (L + 1)) M = some M' ∧ D1 M M' 18 ∧ (∀ k, k < m → 1 ≤ ln k → M'.1 18 k = nI (cdv ln m k)) := by
  have hk7 := kL_le ln m hl
  intro r
  induction r with
  | zero =>
    intro fuel L M hf hi h3 h4 h7 h8
    obtain ⟨f, rfl⟩ : ∃ f, fuel = f + 1 := ⟨fuel - 1, by omega⟩
    refine ⟨M, ?_, D1.rf, fun k hk h1 => h8 k hk h1 (by have := kL_ge ln m k hk; omega)⟩
    show rX5_makeCodes_b4_s (rX5_makeCodes_b4 f) _ _ M = _
    unfold rX5_makeCodes_b4_s
    have c1 : kL ln m < L + 1 := by omega
    simp (disch := omega) only [lt_e, bd2_some, Option.bind_some, k_0, k_1, k_2, k_3, k_4, k_5, k_6, k_7, k_8, k_9, k_10, k_11, k_12, k_13, k_15, k_20, k_60, k_75, k_80, k_127, k_128, k_255, k_256, k_600, k_1200, k_4000, k_20000, nI_leI, nI_ltI, nI_eq, nI_m1, Nat.not_lt_zero, Nat.zero_le, nI_add, pk_sub, nI_mul, nI_clamp, z_0, z_1, if_true, if_false, not_true_eq_false, not_false_eq_true, or_false, false_or, or_self, true_or, or_true, h4, c1]
  | succ r ih =>
    intro fuel L M hf hi h3 h4 h7 h8
    obtain ⟨f, rfl⟩ : ∃ f, fuel = f + 1 := ⟨fuel - 1, by omega⟩
    have b1 := bs_le ln m hm L
    have b2 : 16 * 2 ^ L ≤ 16 * 2 ^ 7 := Nat.mul_le_mul_left _ (Nat.pow_le_pow_right (by decide) (by omega))
    have b3 := cn_le ln L m
    obtain ⟨M1, e1, d1, g1⟩ := lp_mk hm hl (L + 1) (by omega) (rX5_makeCodes_b4 f) m FU 0 M (by unfold FU; omega) (by omega) h3 h7 (fun k hk h1 h2 => h8 k hk h1 (by omega))
    obtain ⟨M2, e2, d2, g2⟩ := ih f (L + 1) M1 (by omega) (by omega) (by rw [d1.1 15 (by decide)]; exact h3) (by rw [d1.1 15 (by decide)]; exact h4) (fun k hk => by rw [d1.1 17 (by decide)]; exact h7 k hk) g1
    refine ⟨M2, ?_, d1.tr d2, g2⟩
    show rX5_makeCodes_b4_s (rX5_makeCodes_b4 f) _ _ M = _
    unfold rX5_makeCodes_b4_s
    have c1 : ¬ kL ln m < L + 1 := by omega
    rw [if_neg (by omega)] at e2
    rw [cn, Nat.add_zero, bs] at e1
    have c2 : (if L = 0 then 0 else cn ln L m) ≤ 8 := by split <;> omega
    generalize hx : (if L = 0 then 0 else cn ln L m) = x at e1 c2 ⊢
    rw [h4, if_neg (by rw [nI_ltI (by omega) (by omega)]; exact c1), lt_e, k_2, nI_mul, k_0, e1]
    rw [bs, hx] at e2
    exact e2
theorem e_makeCodes (hm : m ≤ 8) (hl : ∀ k, k < m → ln k ≤ 7) {M : Mm} (h3 : M.1 15 3 = nI m) (h4 : M.1 15 4 = nI (kL ln m)) (h7 : ∀ k, k < m → M.1 17 k = nI (ln k)) : ∃ M', rX5_makeCodes M = some M' ∧ D1 M M' 18 ∧ (∀ k, k < m → 1 ≤ ln k → M'.1 18 k = nI (cdv ln m k)) := by
  have hk7 := kL_le ln m hl
  exact lp_mks hm hl (kL ln m) FU 0 M (by unfold FU; omega) (by omega) h3 h4 h7 (fun k hk h1 h2 => by omega)
end
