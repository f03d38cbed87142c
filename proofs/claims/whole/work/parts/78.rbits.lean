section
variable {t : Nat → Nat} {n mo sp d e : Nat} {M0 M : Mm} {out : List Nat} {p co fc : Nat} {fp : Int32} {ln sy : Nat → Nat} {m : Nat}
/-- the codes, as the reference holds them -/
def RT (ln : Nat → Nat) (m : Nat) (M : Mm) : Prop := ∀ k, k < m → 1 ≤ ln k → M.1 47 k = nI (cdv ln m k)
theorem rv_comeT (h : RI M0 M out co fc fp) (b : Nat) (ho : out.length < 4000) : ∃ M', rX7_comes (nI b) M = some M' ∧ RI M0 M' (out ++ [b]) co fc fp ∧ M'.1 47 = M.1 47 := by
  refine ⟨_, ?_, h.app b, by rw [st_ne (by decide), st_ne (by decide)]⟩
  unfold rX7_comes
  have q : (st M 33 out.length (nI b)).1 31 4 = nI out.length := by rw [st_ne (by decide)]; exact h.2.2.2.2.2.2.1
  rw [h.2.2.2.2.2.2.1, nI_clamp (by omega), if_neg (fun q => q.elim (nI_pos (by omega)) (by omega)), lt_e, lt_e, q, k_1, nI_add]
theorem b92_found {q33 : Int32 → Int32 → Int32 → Int32 → Int32 → Int32 → Int32 → Int32 → Int32 → Int32 → Mm → Option Mm} {f : Nat} {x1 x2 x3 x5 x6 x7 x8 x9 x10 x12 x13 : Int32} : rX7_bits_b92 q33 (f + 1) x1 x2 x3 x5 x6 x7 x8 x9 x10 1 x12 x13 M = rX7_bits_b194 q33 x1 x2 x3 x5 x6 x7 x8 x9 x10 1 x12 M := by
  show rX7_bits_b92_s q33 (rX7_bits_b92 q33 f) x1 x2 x3 x5 x6 x7 x8 x9 x10 1 x12 x13 M = _
  unfold rX7_bits_b92_s
  rw [if_neg (show ¬ (1 : Int32) = 0 by decide), ite_self]
theorem cdv_lt (hm : m ≤ 8) (hl : ∀ k, k < m → ln k ≤ 7) {k : Nat} (hk : k < m) : cdv ln m k < 5000 := by
  have b1 := bs_le ln m hm (ln k)
  have b2 : 16 * 2 ^ ln k ≤ 16 * 2 ^ 7 := Nat.mul_le_mul_left _ (Nat.pow_le_pow_right (by decide) (hl k hk))
  have b3 := cn_le ln (ln k) k
  rw [cdv]; omega
/-- the reference looks for a code among the symbols from k on -/
theorem lr_fnd (B : Br t n mo sp d e M0) (hm : m ≤ 8) {s0 : Nat} (hs : s0 + m + m ≤ n) (hln : ∀ k, k < m → ln k = t (s0 + m + k)) (hsy : ∀ k, k < m → sy k = t (s0 + k)) (hl : ∀ k, k < m → ln k ≤ 7) (q33 : Int32 → Int32 → Int32 → Int32 → Int32 → Int32 → Int32 → Int32 → Int32 → Int32 → Mm → Option Mm) (x1 x5 x6 x7 x10 : Int32) {L c : Nat} (hL : 1 ≤ L ∧ L ≤ 7) (hc : c < 1000) (ho : out.length < 4000) (h : RI M0 M out co 0 (-1)) (hT : RT ln m M) : ∀ (r fuel k b : Nat), r + 1 < fuel → k + r = m → (b = 0 ∨ b = 1) →
    (∀ j, fnd ln m L c r k = some j → ∃ M' bb, RI M0 M' (out ++ [sy j]) co 0 (-1) ∧ RT ln m M' ∧ rX7_bits_b92 q33 fuel x1 (nI s0) (nI m) x5 x6 x7 (nI c) (nI L) x10 0 (nI b) (nI k) M = rX7_bits_b194 q33 x1 (nI s0) (nI m) x5 x6 x7 (nI c) (nI L) x10 1 bb M') ∧
    (fnd ln m L c r k = none → rX7_bits_b92 q33 fuel x1 (nI s0) (nI m) x5 x6 x7 (nI c) (nI L) x10 0 (nI b) (nI k) M = rX7_bits_b194 q33 x1 (nI s0) (nI m) x5 x6 x7 (nI c) (nI L) x10 0 (nI (bgn ln m L c r k b)) M) := by
  have b1 := B.1
  have b2 := B.2.1
  intro r
  induction r with
  | zero =>
    intro fuel k b hf hk hb
    obtain ⟨f, rfl⟩ : ∃ f, fuel = f + 1 := ⟨fuel - 1, by omega⟩
    refine ⟨fun j hj => (by cases hj), fun _ => ?_⟩
    show rX7_bits_b92_s q33 (rX7_bits_b92 q33 f) _ _ _ _ _ _ _ _ _ _ _ _ M = _
    unfold rX7_bits_b92_s
    rw [if_pos ((nI_leI (by omega) (by omega)).mpr (by omega))]
    rfl
  | succ r ih =>
    intro fuel k b hf hk hb
    obtain ⟨f, rfl⟩ : ∃ f, fuel = f + 1 := ⟨fuel - 1, by omega⟩
    obtain ⟨f', rfl⟩ : ∃ f', f = f' + 1 := ⟨f - 1, by omega⟩
    have hlk := hl k (by omega)
    have t1 : M.1 32 (s0 + m + k) = nI (ln k) := by rw [h.tp B (by omega), hln k (by omega)]
    have t2 : M.1 32 (s0 + k) = nI (sy k) := by rw [h.tp B (by omega), hsy k (by omega)]
    have hcd := cdv_lt hm hl (show k < m by omega)
    have hu : rX7_bits_b92 q33 (f' + 1 + 1) x1 (nI s0) (nI m) x5 x6 x7 (nI c) (nI L) x10 0 (nI b) (nI k) M = rX7_bits_b92_s q33 (rX7_bits_b92 q33 (f' + 1)) x1 (nI s0) (nI m) x5 x6 x7 (nI c) (nI L) x10 0 (nI b) (nI k) M := rfl
    unfold rX7_bits_b92_s at hu
    rw [if_neg (by rw [nI_leI (by omega) (by omega)]; omega), if_pos rfl, nI_add, nI_add, if_neg (nocl (by omega) (by decide)), nI_clamp (n := s0 + m + k) (by omega), t1, lt_e] at hu
    have hbits : ∀ (x11 : Int32) (M1 : Mm), M1.1 47 = M.1 47 → rX7_bits_b151 (rX7_bits_b92 q33 (f' + 1)) x1 (nI s0) (nI m) x5 x6 x7 (nI c) (nI L) x10 x11 (nI b) (nI k) (nI (ln k)) M1 = rX7_bits_b92 q33 (f' + 1) x1 (nI s0) (nI m) x5 x6 x7 (nI c) (nI L) x10 x11 (nI (if b = 0 then (if L < ln k ∧ cdv ln m k / 2 ^ (ln k - L) = c then 1 else 0) else 1)) (nI (k + 1)) M1 := by
      intro x11 M1 h47
      unfold rX7_bits_b151 rX7_bits_b181 rX7_bits_b185 rX7_bits_b186
      simp only [lt_e, k_1, nI_add]
      rcases hb with hb | hb
      · subst hb
        rw [if_pos (show nI 0 = 0 from rfl), if_pos rfl]
        by_cases c1 : L < ln k
        · have h8 : M1.1 47 k = nI (cdv ln m k) := by rw [h47]; exact hT k (by omega) (by omega)
          have hdl : cdv ln m k / 2 ^ (ln k - L) ≤ cdv ln m k := Nat.div_le_self _ _
          rw [if_neg (by rw [nI_leI (by omega) (by omega)]; omega), if_neg (nocl (a := k) (by omega) (by decide)), nI_clamp (n := k) (by omega), h8, pk_sub (by omega), shr_b (by omega) (by omega)]
          by_cases c2 : cdv ln m k / 2 ^ (ln k - L) = c
          · rw [if_pos (by rw [c2]), if_pos ⟨c1, c2⟩]
          · rw [if_neg (by rw [nI_eq (by omega) (by omega)]; exact c2), if_neg (fun q => c2 q.2)]
            rfl
        · rw [if_pos ((nI_leI (by omega) (by omega)).mpr (by omega)), if_neg (fun q => c1 q.1)]
          rfl
      · subst hb
        rw [if_neg (show ¬ nI 1 = 0 by decide), if_neg (by decide)]
    have hbb : (if b = 0 then (if L < ln k ∧ cdv ln m k / 2 ^ (ln k - L) = c then 1 else 0) else 1) = 0 ∨ (if b = 0 then (if L < ln k ∧ cdv ln m k / 2 ^ (ln k - L) = c then 1 else 0) else 1) = 1 := by
      split
      · split
        · exact Or.inr rfl
        · exact Or.inl rfl
      · exact Or.inr rfl
    rw [fnd, bgn]
    by_cases g1 : ln k = L
    · have h8 : M.1 47 k = nI (cdv ln m k) := hT k (by omega) (by omega)
      rw [if_pos (by rw [g1]), if_neg (nocl (a := k) (by omega) (by decide)), nI_clamp (n := k) (by omega), h8] at hu
      by_cases g2 : cdv ln m k = c
      · rw [if_pos (by rw [g2]), nI_add, if_neg (nocl (by omega) (by decide)), nI_clamp (n := s0 + k) (by omega), t2] at hu
        obtain ⟨M1, e1, h1, h47⟩ := rv_comeT h (sy k) ho
        rw [e1, Option.bind_some, hbits 1 M1 h47, b92_found] at hu
        rw [if_pos ⟨g1, g2⟩]
        refine ⟨fun j hj => ?_, fun q => (by cases q)⟩
        cases hj
        exact ⟨M1, _, h1, fun k hk hk1 => by rw [h47]; exact hT k hk hk1, hu⟩
      · rw [if_neg (by rw [nI_eq (by omega) (by omega)]; exact g2), hbits 0 M rfl] at hu
        rw [if_neg (fun q => g2 q.2), hu]
        exact ih (f' + 1) (k + 1) _ (by omega) (by omega) hbb
    · rw [if_neg (by rw [nI_eq (by omega) (by omega)]; exact g1), hbits 0 M rfl] at hu
      rw [if_neg (fun q => g1 q.1), hu]
      exact ih (f' + 1) (k + 1) _ (by omega) (by omega) hbb
/-- one symbol -/
theorem lr_sym (B : Br t n mo sp d e M0) (hm : m ≤ 8) {s0 : Nat} (hs : s0 + m + m ≤ n) (hln : ∀ k, k < m → ln k = t (s0 + m + k)) (hsy : ∀ k, k < m → sy k = t (s0 + k)) (hl : ∀ k, k < m → ln k ≤ 7) (hgd : kS ln m = 128 ∨ (kU ln m = 1 ∧ kL ln m = 1)) (q10 : Int32 → Int32 → Int32 → Int32 → Int32 → Int32 → Mm → Option Mm) (x1 x5 x7 : Int32) (fs : Nat) (ho : out.length < 4000) : ∀ (r fuel L code b : Nat) (M : Mm), r + 2 < fuel → L + r = kL ln m + 1 → 1 ≤ L → code < 2 ^ (L - 1) → kq ln m (L - 1) ≤ code → b ≤ 8 * e → RI M0 M out co 0 (-1) → RT ln m M →
    ((aSym t e m sy ln r L code b).1 = 0 → ∃ M', RI M0 M' (out ++ [(aSym t e m sy ln r L code b).2.1]) co 0 (-1) ∧ RT ln m M' ∧ rX7_bits_b33 q10 fuel x1 (nI s0) (nI m) x5 (nI b) x7 (nI code) (nI (L - 1)) (nI fs) 0 M = q10 x1 (nI s0) (nI m) x5 (nI (aSym t e m sy ln r L code b).2.2) (x7 + 1) M') ∧
    ((aSym t e m sy ln r L code b).1 ≠ 0 → ∃ M', RI M0 M' out co (aSym t e m sy ln r L code b).1 (if (aSym t e m sy ln r L code b).1 = 3 then nI e else nI fs) ∧ ((aSym t e m sy ln r L code b).1 = 3 ∨ (aSym t e m sy ln r L code b).1 = 7) ∧ (0 < r → rX7_bits_b33 q10 fuel x1 (nI s0) (nI m) x5 (nI b) x7 (nI code) (nI (L - 1)) (nI fs) 0 M = some M')) := by
  obtain ⟨b1, b2, b3, b4, b5, b6, -⟩ := id B
  have hk7 := kL_le ln m hl
  intro r
  induction r with
  | zero =>
    intro fuel L code b M hf hi hL1 hcode hkq hb h hT
    refine ⟨fun q => (by simp [aSym] at q), fun _ => ?_⟩
    obtain ⟨f1, f2⟩ := h.fl 7 (nI fs)
    exact ⟨_, f2, Or.inr rfl, fun q => absurd q (by decide)⟩
  | succ r ih =>
    intro fuel L code b M hf hi hL1 hcode hkq hb h hT
    obtain ⟨f, rfl⟩ : ∃ f, fuel = f + 1 := ⟨fuel - 1, by omega⟩
    have hc2 : 2 ^ (L - 1) ≤ 2 ^ 6 := Nat.pow_le_pow_right (by decide) (by omega)
    have hbl := bitAt_lt (t := t) b
    have hu : rX7_bits_b33 q10 (f + 1) x1 (nI s0) (nI m) x5 (nI b) x7 (nI code) (nI (L - 1)) (nI fs) 0 M = rX7_bits_b33_s q10 (rX7_bits_b33 q10 f) x1 (nI s0) (nI m) x5 (nI b) x7 (nI code) (nI (L - 1)) (nI fs) 0 M := rfl
    unfold rX7_bits_b33_s at hu
    have hdiv : nI b / 8 = nI (b / 8) := pk_div (by omega) (by decide) (by decide)
    have hrem : nI b - nI (b / 8) * 8 = nI (b % 8) := by
      have := pk_rem (a := b) (d := 8) (by omega) (by decide) (by decide)
      rw [show nI b / nI 8 = nI (b / 8) from hdiv] at this
      exact this
    rw [if_pos rfl, hdiv, hrem] at hu
    by_cases c1 : e ≤ b / 8
    · have hA : aSym t e m sy ln (r + 1) L code b = (3, 0, b) := by rw [aSym, if_pos c1]
      rw [hA]
      obtain ⟨M1, e1, h1⟩ := rv_has0 B h (a := b / 8) (k := 1) (by omega) (by omega)
      refine ⟨fun q => (by cases q), fun _ => ⟨M1, h1, Or.inl rfl, fun _ => ?_⟩⟩
      rw [hu, show rX7_has (nI (b / 8)) 1 M = some (0, M1) from e1]
      rfl
    have e1 := rv_has1 B h (a := b / 8) (k := 1) (by omega)
    have tq := h.tp B (i := b / 8) (by omega)
    have tb := b2 (b / 8) (by omega)
    have hbit : (2 : Int32) * nI code + ((nI (t (b / 8)) >>> (((7 : Int32) - nI (b % 8)) &&& 31)) &&& 1) = nI (2 * code + bitAt t b) := by
      rw [show (7 : Int32) = nI 7 from rfl, pk_sub (by omega), shr_b (by omega) (by omega), and_1, k_2, nI_mul, nI_add]
      · rfl
      · exact Nat.lt_of_le_of_lt (Nat.div_le_self _ _) (by omega)
    rw [show rX7_has (nI (b / 8)) 1 M = some (1, M) from e1, bd2_some, if_neg (by decide), if_neg (nocl (by omega) (by decide)), nI_clamp (n := b / 8) (by omega), tq, hbit, lt_e, lt_e, lt_e, k_1, nI_add, nI_add, show L - 1 + 1 = L by omega] at hu
    have hA : aSym t e m sy ln (r + 1) L code b = match fnd ln m L (2 * code + bitAt t b) m 0 with
        | some k => (0, sy k, b + 1)
        | none => aSym t e m sy ln r (L + 1) (2 * code + bitAt t b) (b + 1) := by rw [aSym, if_neg c1]; rfl
    rw [hA]
    obtain ⟨u1, u2⟩ := lr_fnd B hm hs hln hsy hl (rX7_bits_b33 q10 f) x1 x5 (nI (b + 1)) x7 (nI fs) (L := L) (c := 2 * code + bitAt t b) (by omega) (by omega) ho h hT m FU 0 0 (by unfold FU; omega) (by omega) (Or.inl rfl)
    cases hfn : fnd ln m L (2 * code + bitAt t b) m 0 with
    | some k =>
      obtain ⟨M1, bb, g1, g2, g3⟩ := u1 k hfn
      refine ⟨fun _ => ⟨M1, g1, g2, ?_⟩, fun q => absurd rfl q⟩
      rw [hu.trans g3]
      unfold rX7_bits_b194 rX7_bits_b213
      rw [if_neg (show ¬ (1 : Int32) = 0 by decide)]
      obtain ⟨f', rfl⟩ : ∃ f', f = f' + 1 := ⟨f - 1, by omega⟩
      show rX7_bits_b33_s q10 (rX7_bits_b33 q10 f') _ _ _ _ _ _ _ _ _ 1 M1 = _
      unfold rX7_bits_b33_s
      rw [if_neg (show ¬ (1 : Int32) = 0 by decide)]
      rfl
    | none =>
      have g3 := u2 hfn
      have hp2 : 2 ^ L = 2 * 2 ^ (L - 1) := by rw [show L = (L - 1) + 1 by omega, Nat.pow_succ]; simp; omega
      have hbs : bs ln m L ≤ 2 * code + bitAt t b := by
        have : bs ln m L = 2 * kq ln m (L - 1) := by
          rw [show L = (L - 1) + 1 by omega]; rfl
        omega
      have hkq2 : kq ln m L ≤ 2 * code + bitAt t b := nf_ge hL1 hbs hfn
      have hu2 : rX7_bits_b33 q10 (f + 1) x1 (nI s0) (nI m) x5 (nI b) x7 (nI code) (nI (L - 1)) (nI fs) 0 M = rX7_bits_b194 (rX7_bits_b33 q10 f) x1 (nI s0) (nI m) x5 (nI (b + 1)) x7 (nI (2 * code + bitAt t b)) (nI L) (nI fs) 0 (nI (bgn ln m L (2 * code + bitAt t b) m 0 0)) M := by
        exact hu.trans g3
      unfold rX7_bits_b194 rX7_bits_b213 at hu2
      rw [if_pos rfl] at hu2
      dsimp only
      rcases Nat.eq_zero_or_pos r with hr | hr
      · -- the longest length
        subst hr
        have hLk : L = kL ln m := by omega
        have hnot : ¬ kS ln m = 128 := by
          intro q
          have := kq_full hl q
          rw [← hLk] at this
          omega
        obtain ⟨hU, hK⟩ : kU ln m = 1 ∧ kL ln m = 1 := by omega
        have hbg : bgn ln m L (2 * code + bitAt t b) m 0 0 = 0 := bgn_n m 0 (fun k _ hk q => by have := kL_ge ln m k (by omega); omega)
        obtain ⟨f1, f2⟩ := h.fl 7 (nI fs)
        refine ⟨fun q => (by simp [aSym] at q), fun _ => ⟨_, f2, Or.inr rfl, fun _ => ?_⟩⟩
        rw [hu2, hbg, if_pos (show nI 0 = 0 from rfl), k_7, f1]
        rfl
      · have h128 : kS ln m = 128 := by
          rcases hgd with q | q
          · exact q
          · omega
        obtain ⟨k, k1, k2, k3⟩ := begins_some hl h128 (L := L) (x := 2 * code + bitAt t b) (by omega) (by omega) hkq2
        have hbg : bgn ln m L (2 * code + bitAt t b) m 0 0 = 1 := bgn_y m 0 ⟨k, by omega, by omega, k2, k3⟩
        rw [hbg, if_neg (show ¬ nI 1 = 0 by decide)] at hu2
        have hih := ih f (L + 1) (2 * code + bitAt t b) (b + 1) M (by omega) (by omega) (by omega) (by rw [show L + 1 - 1 = L by omega]; omega) (by rw [show L + 1 - 1 = L by omega]; exact hkq2) (by omega) h hT
        rw [show L + 1 - 1 = L by omega] at hih
        refine ⟨fun q => ?_, fun q => ?_⟩
        · obtain ⟨M', j1, j2, j3⟩ := hih.1 q
          exact ⟨M', j1, j2, hu2.trans j3⟩
        · obtain ⟨M', j1, j2, j3⟩ := hih.2 q
          exact ⟨M', j1, j2, fun _ => hu2.trans (j3 hr)⟩
/-- the bits left over -/
theorem lr_left (B : Br t n mo sp d e M0) (h : RI M0 M out co 0 (-1)) : ∀ (r fuel b : Nat), r < fuel → r ≤ 7 → (b + r) % 8 = 0 → b + r ≤ 8 * e →
    (t (b / 8) % 2 ^ r = 0 ∨ r = 0 → rX7_bits_b232 fuel (nI d) (nI b) (nI ((b + r) / 8)) M = rX7_ends (nI d) (nI ((b + r) / 8)) M) ∧ (¬ (t (b / 8) % 2 ^ r = 0 ∨ r = 0) → ∃ M', RI M0 M' out co 8 (nI (b / 8)) ∧ rX7_bits_b232 fuel (nI d) (nI b) (nI ((b + r) / 8)) M = some M') := by
  obtain ⟨b1, b2, b3, b4, b5, b6, -⟩ := id B
  intro r
  induction r with
  | zero =>
    intro fuel b hf hr h8 hb
    obtain ⟨f, rfl⟩ : ∃ f, fuel = f + 1 := ⟨fuel - 1, by omega⟩
    refine ⟨fun _ => ?_, fun q => absurd (Or.inr rfl) q⟩
    show rX7_bits_b232_s (rX7_bits_b232 f) _ _ _ M = _
    unfold rX7_bits_b232_s
    rw [k_8, nI_mul, if_pos ((nI_leI (by omega) (by omega)).mpr (by omega)), bind_id]
  | succ r ih =>
    intro fuel b hf hr h8 hb
    obtain ⟨f, rfl⟩ : ∃ f, fuel = f + 1 := ⟨fuel - 1, by omega⟩
    have hdiv : nI b / 8 = nI (b / 8) := pk_div (by omega) (by decide) (by decide)
    have hrem : nI b - nI (b / 8) * 8 = nI (b % 8) := by
      have := pk_rem (a := b) (d := 8) (by omega) (by decide) (by decide)
      rw [show nI b / nI 8 = nI (b / 8) from hdiv] at this
      exact this
    have tq := h.tp B (i := b / 8) (by omega)
    have tb := b2 (b / 8) (by omega)
    have hbit : (nI (t (b / 8)) >>> (((7 : Int32) - nI (b % 8)) &&& 31)) &&& 1 = nI (t (b / 8) / 2 ^ r % 2) := by
      rw [show (7 : Int32) = nI 7 from rfl, pk_sub (by omega), shr_b (by omega) (by omega), and_1, show 7 - b % 8 = r by omega]
      exact Nat.lt_of_le_of_lt (Nat.div_le_self _ _) (by omega)
    have hu : rX7_bits_b232 (f + 1) (nI d) (nI b) (nI ((b + (r + 1)) / 8)) M = rX7_bits_b232_s (rX7_bits_b232 f) (nI d) (nI b) (nI ((b + (r + 1)) / 8)) M := rfl
    unfold rX7_bits_b232_s at hu
    rw [hdiv, hrem, k_8, nI_mul, if_neg (by rw [nI_leI (by omega) (by omega)]; omega), if_neg (nocl (a := b / 8) (by omega) (by decide)), nI_clamp (n := b / 8) (by omega), tq, hbit, lt_e, k_1, nI_add] at hu
    have hmod : t (b / 8) % 2 ^ (r + 1) = t (b / 8) % 2 ^ r + 2 ^ r * (t (b / 8) / 2 ^ r % 2) := Nat.mod_pow_succ
    have h2 : t (b / 8) / 2 ^ r % 2 < 2 := Nat.mod_lt _ (by decide)
    have hpos : 0 < 2 ^ r := Nat.pow_pos (by decide)
    by_cases c1 : t (b / 8) / 2 ^ r % 2 = 1
    · obtain ⟨f1, f2⟩ := h.fl 8 (nI (b / 8))
      rw [c1, if_pos rfl] at hu
      rw [c1, Nat.mul_one] at hmod
      refine ⟨fun q => by omega, fun _ => ⟨_, f2, ?_⟩⟩
      rw [hu, f1]
      rfl
    · have c0 : t (b / 8) / 2 ^ r % 2 = 0 := by omega
      rw [c0, if_neg (by decide)] at hu
      rw [c0, Nat.mul_zero, Nat.add_zero] at hmod
      rw [hu, hmod]
      have hih := ih f (b + 1) (by omega) (by omega) (by omega) (by omega)
      rw [show b + 1 + r = b + (r + 1) by omega] at hih
      rcases Nat.eq_zero_or_pos r with hr0 | hr0
      · subst hr0
        exact ⟨fun _ => hih.1 (Or.inr rfl), fun q => absurd (Or.inl (by rw [Nat.pow_zero, Nat.mod_one])) q⟩
      · rw [show (b + 1) / 8 = b / 8 by omega] at hih
        exact ⟨fun q => hih.1 (by omega), fun q => hih.2 (by omega)⟩
end
