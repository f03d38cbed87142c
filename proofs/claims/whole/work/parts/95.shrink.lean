def cutf (t : Nat → Nat) (a L : Nat) : Nat → Nat := fun i => if i < a then t i else t (i + L)
theorem cutf_lt {t : Nat → Nat} {a L i : Nat} (h : i < a) : cutf t a L i = t i := if_pos h
theorem cutf_ge {t : Nat → Nat} {a L i : Nat} (h : ¬ i < a) : cutf t a L i = t (i + L) := if_neg h
theorem sa_e {M : Mm} {c : Nat} {f : Nat → Int32} : (sa M c f).1 c = f := sa_at
theorem sa_o {M : Mm} {c x : Nat} {f : Nat → Int32} (h : x ≠ c) : (sa M c f).1 x = M.1 x := sa_ne h
section
variable {M : Mm} {t : Nat → Nat} {n a L : Nat}
theorem c_take (hT : TpC t n M) (hL : a + L ≤ n) : ∃ N, rX0_takeOut 1 1200 1200 (nI a) (nI L) M = some N ∧ TpC (cutf t a L) (n - L) N ∧ (∀ q, q < L → N.1 3 q = nI (t (a + q))) ∧ N.1 1 3 = nI L ∧ (∀ c, c ≠ 1 → c ≠ 2 → c ≠ 3 → N.1 c = M.1 c) ∧ N.2 = M.2 := by
  obtain ⟨h1, h2, h3, h4⟩ := hT
  have c0 : (0 : Int32).toNatClampNeg = 0 := by decide
  have ca : (nI a).toNatClampNeg = a := nI_clamp (by omega)
  have cL : (nI L).toNatClampNeg = L := nI_clamp (by omega)
  have e1 : (st M 1 3 0).1 1 1 = nI n := by rw [st_eq, upd_n (by decide)]; exact h3
  have p1 : nI n - nI a = nI (n - a) := pk_sub (by omega)
  have p2 : nI (n - a) - nI L = nI (n - a - L) := pk_sub (by omega)
  have p3 : nI a + nI L = nI (a + L) := nI_add a L
  have ca2 : (nI (a + L)).toNatClampNeg = a + L := nI_clamp (by omega)
  have cn : (nI (n - a - L)).toNatClampNeg = n - a - L := nI_clamp (by omega)
  have g1 : ¬ (nI a < 0 ∨ (0 : Int32) < 0 ∨ nI L < 0 ∨ 1200 < a + L ∨ 1200 < 0 + L) := by
    rintro (q | q | q | q | q)
    · exact nI_pos (by omega) q
    · exact absurd q (by decide)
    · exact nI_pos (by omega) q
    · omega
    · omega
  have g2 : ¬ (nI (a + L) < 0 ∨ nI a < 0 ∨ nI (n - a - L) < 0 ∨ 1200 < a + L + (n - a - L) ∨ 1200 < a + (n - a - L)) := by
    rintro (q | q | q | q | q)
    · exact nI_pos (by omega) q
    · exact nI_pos (by omega) q
    · exact nI_pos (by omega) q
    · omega
    · omega
  have hu : rX0_takeOut 1 1200 1200 (nI a) (nI L) M = rX0_takeOut 1 1200 1200 (nI a) (nI L) M := rfl
  conv at hu =>
    rhs
    unfold rX0_takeOut
  rw [lt_e, if_neg (nI_pos (by omega)), if_neg (nI_pos (by omega)), if_neg (nI_nlt (by omega) (by omega)), e1, p1, if_pos (nI_le (by omega) (by omega)), ca, cL, c0, if_neg g1, lt_e] at hu
  have e7 : ∀ f, (sa (st M 1 3 0) (1 + 2) f).1 1 1 = nI n := fun f => by rw [sa_o (by decide)]; exact e1
  rw [e7, p1, p2, p3, ca2, cn, if_neg g2, lt_e, lt_e, lt_e] at hu
  refine ⟨_, hu, ⟨by omega, fun i hi => ?_, ?_, fun i hi => ?_⟩, fun q hq => ?_, ?_, fun c c1 c2 c3 => ?_, rfl⟩
  · by_cases w : i < a
    · rw [cutf_lt w]; exact h2 i (by omega)
    · rw [cutf_ge w]; exact h2 _ (by omega)
  · rw [st_eq, upd_s, st_eq, upd_n (by decide), sa_o (by decide), sa_o (by decide), e1, pk_sub (by omega)]
  · rw [st_ne (by decide), st_ne (by decide), show 1 + 1 = 2 from rfl, sa_e, sa_o (by decide), st_ne (by decide)]
    by_cases w : i < a
    · rw [pk_cpy_out (Or.inl w), cutf_lt w]; exact h4 i (by omega)
    · rw [pk_cpy_in (by omega) (by omega), cutf_ge w, show a + L + (i - a) = i + L by omega]; exact h4 _ (by omega)
  · rw [st_ne (by decide), st_ne (by decide), sa_o (by decide), show 1 + 2 = 3 from rfl, sa_e, st_ne (by decide), pk_cpy_in (by omega) (by omega), show a + (q - 0) = a + q by omega]
    exact h4 _ (by omega)
  · rw [st_eq, upd_n (by decide), st_eq, upd_s]
  · rw [st_ne c1, st_ne c1, sa_o c2, sa_o c3, st_ne c1]
theorem c_back (hn : n ≤ 1200) (hb : ∀ i, i < n → t i < 256) (hL : a + L ≤ n) (h1 : M.1 1 1 = nI (n - L)) (h2 : ∀ i, i < n - L → M.1 2 i = nI (cutf t a L i)) (h3 : ∀ q, q < L → M.1 3 q = nI (t (a + q))) (hz : M.1 1 3 = nI L) : ∃ N, rX0_putBack 1 1200 1200 (nI a) M = some N ∧ TpC t n N ∧ (∀ c, c ≠ 1 → c ≠ 2 → c ≠ 3 → N.1 c = M.1 c) ∧ N.2 = M.2 := by
  have c0 : (0 : Int32).toNatClampNeg = 0 := by decide
  have ca : (nI a).toNatClampNeg = a := nI_clamp (by omega)
  have cL : (nI L).toNatClampNeg = L := nI_clamp (by omega)
  have p1 : nI 1200 - nI (n - L) = nI (1200 - (n - L)) := pk_sub (by omega)
  have p2 : nI (n - L) - nI a = nI (n - L - a) := pk_sub (by omega)
  have p3 : nI a + nI L = nI (a + L) := nI_add a L
  have ca2 : (nI (a + L)).toNatClampNeg = a + L := nI_clamp (by omega)
  have cn : (nI (n - L - a)).toNatClampNeg = n - L - a := nI_clamp (by omega)
  have g1 : ¬ (nI a < 0 ∨ nI (a + L) < 0 ∨ nI (n - L - a) < 0 ∨ 1200 < a + (n - L - a) ∨ 1200 < a + L + (n - L - a)) := by
    rintro (q | q | q | q | q)
    · exact nI_pos (by omega) q
    · exact nI_pos (by omega) q
    · exact nI_pos (by omega) q
    · omega
    · omega
  have g2 : ¬ ((0 : Int32) < 0 ∨ nI a < 0 ∨ nI L < 0 ∨ 1200 < 0 + L ∨ 1200 < a + L) := by
    rintro (q | q | q | q | q)
    · exact absurd q (by decide)
    · exact nI_pos (by omega) q
    · exact nI_pos (by omega) q
    · omega
    · omega
  have hu : rX0_putBack 1 1200 1200 (nI a) M = rX0_putBack 1 1200 1200 (nI a) M := rfl
  conv at hu =>
    rhs
    unfold rX0_putBack
  rw [if_neg (nI_pos (by omega)), h1, if_neg (nI_nlt (by omega) (by omega)), hz, p1, if_pos (nI_le (by omega) (by omega)), p2, p3, ca, ca2, cn, if_neg g1, lt_e] at hu
  have e5 : ∀ f, (sa M (1 + 1) f).1 1 = M.1 1 := fun f => sa_o (by decide)
  rw [e5, hz, cL, c0, if_neg g2, lt_e, lt_e, lt_e] at hu
  refine ⟨_, hu, ⟨hn, hb, ?_, fun i hi => ?_⟩, fun c c1 c2 c3 => ?_, rfl⟩
  · rw [st_eq, upd_n (by decide), st_eq, upd_s, sa_o (by decide), e5, h1, hz, nI_add]
    congr 1; omega
  · rw [st_ne (by decide), st_ne (by decide), show 1 + 1 = 2 from rfl, sa_e, sa_o (by decide), show 1 + 2 = 3 from rfl, sa_e]
    by_cases w : i < a
    · rw [pk_cpy_out (Or.inl w), pk_cpy_out (Or.inl (by omega)), h2 i (by omega), cutf_lt w]
    · by_cases w2 : i < a + L
      · rw [pk_cpy_in (by omega) (by omega), h3 _ (by omega), show a + (0 + (i - a)) = i by omega]
      · rw [pk_cpy_out (by omega), pk_cpy_in (by omega) (by omega), h2 _ (by omega), cutf_ge (by omega), show a + (i - (a + L)) + L = i by omega]
  · rw [st_ne c1, st_ne c1, sa_o c2, sa_o c2]
end
