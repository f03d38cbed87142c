section
variable {sd : Int64} {mo sp dp fc m : Nat} {off : Nat → Nat}
/-- the last READ of a shrink -/
theorem shr_end {t : Nat → Nat} {n : Nat} {r : Pr} {rd : Int32} {Mc Mr : Mm} (w1 : mo ≤ 4000) (w2 : sp ≤ 20000) (w3 : dp ≤ 8) (hc : CJ t n sd r rd Mc) (hr : RJ t n sd r rd Mr) (hl : r.2.2.2.1.1.length ≤ 4000) : ∃ x Mc' Mr', rX6_shrink_b129 (nI mo) (nI sp) (nI dp) Mc = some (x, Mc') ∧ (Option.bind (rX7_reads (nI mo) (nI sp) (nI dp) Mr) fun M17 => some (M17.1 31 2, M17)) = some (x, Mr') ∧ JJ Mc' Mr' := by
  obtain ⟨Mc', Mr', e1, e2, j1, j2, -, -⟩ := s_read hc hr hl w1 w2 w3
  obtain ⟨g1, g2, g3⟩ := aRead_ok (t := t) (n := n) (mo := mo) (sp := sp) (dp := dp) hc.1.1 w1 w3
  refine ⟨nI n, Mc', Mr', ?_, ?_, t, n, sd, _, _, j1, j2, g1, g2, g3⟩
  · unfold rX6_shrink_b129
    rw [e1, bd2_some, j1.1.2.2.1]
  · rw [e2, Option.bind_some, j2.1.2.2.1]
theorem g_shr (w1 : mo ≤ 4000) (w2 : sp ≤ 20000) (w3 : dp ≤ 8) (hm : m < 600) (hf : fc < 100) (hmono : ∀ i, i < m → off i ≤ off (i + 1)) (hoff : ∀ i, i ≤ m → off i ≤ off m) (hoff2 : off m ≤ 1200) : ∀ (j k f g : Nat) (t : Nat → Nat) (n a gone : Nat) (r : Pr) (rd : Int32) (Mc Mr : Mm), k + j = m → j < f → j < g → CJ t n sd r rd Mc → RJ t n sd r rd Mr → r.2.2.2.1.1.length ≤ 4000 → (∀ i, i < m → Mc.1 30 i = nI (off (i + 1) - off i)) → (0 < m → ∀ i, i ≤ m → Mr.1 49 i = nI (off i)) → off k = a + gone → off m ≤ n + gone →
    ∃ x Mc' Mr', rX6_shrink_b54 f (nI mo) (nI sp) (nI dp) (nI fc) (nI m) (nI a) (nI k) Mc = some (x, Mc') ∧ rX7_shrink_b92 g (nI mo) (nI sp) (nI dp) (nI fc) (nI m) (nI gone) (nI k) Mr = some (x, Mr') ∧ JJ Mc' Mr' := by
  intro j
  induction j with
  | zero =>
    intro k f g t n a gone r rd Mc Mr hk hf' hg' hc hr hl h30 h49 ha hn
    obtain ⟨f, rfl⟩ : ∃ f', f = f' + 1 := ⟨f - 1, by omega⟩
    obtain ⟨g, rfl⟩ : ∃ g', g = g' + 1 := ⟨g - 1, by omega⟩
    obtain ⟨x, Mc', Mr', e1, e2, hJ⟩ := shr_end w1 w2 w3 hc hr hl
    refine ⟨x, Mc', Mr', ?_, ?_, hJ⟩
    · show rX6_shrink_b54_s (rX6_shrink_b54 f) (nI mo) (nI sp) (nI dp) (nI fc) (nI m) (nI a) (nI k) Mc = _
      unfold rX6_shrink_b54_s
      rw [if_pos (nI_le (by omega) (by omega)), e1]
    · show rX7_shrink_b92_s (rX7_shrink_b92 g) (nI mo) (nI sp) (nI dp) (nI fc) (nI m) (nI gone) (nI k) Mr = _
      unfold rX7_shrink_b92_s
      rw [if_pos (nI_le (by omega) (by omega)), e2]
  | succ j ih =>
    intro k f g t n a gone r rd Mc Mr hk hf' hg' hc hr hl h30 h49 ha hn
    obtain ⟨f, rfl⟩ : ∃ f', f = f' + 1 := ⟨f - 1, by omega⟩
    obtain ⟨g, rfl⟩ : ∃ g', g = g' + 1 := ⟨g - 1, by omega⟩
    have o1 := hmono k (by omega)
    have o2 := hoff (k + 1) (by omega)
    have hn12 := hc.1.1
    obtain ⟨L, hL⟩ : ∃ L, off (k + 1) - off k = L := ⟨_, rfl⟩
    have b30 := h30 k (by omega)
    rw [hL] at b30
    have b49 := h49 (by omega) k (by omega)
    have b49' := h49 (by omega) (k + 1) (by omega)
    -- the class takes the item out
    obtain ⟨C1, k1, T1, K1, Z1, F1, S1⟩ := c_take (a := a) (L := L) hc.1 (by omega)
    have hc1 : CJ (cutf t a L) (n - L) sd r rd C1 := hc.to ⟨T1, by rw [S1]; exact hc.2.1, F1⟩
    -- the reference too
    obtain ⟨R1, m1, m2, m3, m4⟩ := l_139 (q92 := rX7_shrink_b92 g) (x1 := nI mo) (x2 := nI sp) (x3 := nI dp) (x4 := nI fc) (x5 := nI m) (x6 := nI gone) (x7 := nI k) (x8 := nI a) (x9 := nI L) (x10 := nI n) hn12 n 0 FU Mr (by omega) (by unfold FU; omega) hr.1.2.2.1 (fun q hq => by omega)
    rw [pk_sub (show L ≤ n by omega)] at m1
    obtain ⟨R2, p1, p2, p3, p4, p5⟩ := l_183 (q92 := rX7_shrink_b92 g) (x1 := nI mo) (x2 := nI sp) (x3 := nI dp) (x4 := nI fc) (x5 := nI m) (x6 := nI gone) (x7 := nI k) (x10 := nI n) (n := n - L) (L := L) (by omega) (n - L - a) a FU (st R1 31 2 (nI (n - L))) (by omega) (by unfold FU; omega) (by rw [st_eq, upd_s])
    have r48 : ∀ q, q < n → R2.1 48 q = nI (t q) := fun q hq => by rw [p2 48 (by decide), st_ne (by decide), m4 q hq]; exact hr.1.2.2.2 q hq
    have DR2 : DR Mr (cutf t a L) (n - L) sd R2 := by
      refine ⟨⟨by omega, T1.2.1, ?_, fun i hi => ?_⟩, ?_, fun c c1 c2 c3 c4 => ?_, fun i hi => ?_⟩
      · rw [p2 31 (by decide), st_eq, upd_s]
      · by_cases w : i < a
        · rw [p4 i w, st_ne (by decide), m2 32 (by decide), cutf_lt w]; exact hr.1.2.2.2 i (by omega)
        · rw [p5 i (by omega) hi, st_ne (by decide), m4 _ (by omega), cutf_ge w]; exact hr.1.2.2.2 _ (by omega)
      · rw [p3, st_2, m3]; exact hr.2.1
      · rw [p2 c c2, st_ne c1, m2 c c3]
      · rw [p2 31 (by decide), st_eq, upd_n hi, m2 31 (by decide)]
    have hr1 : RJ (cutf t a L) (n - L) sd r rd R2 := hr.to DR2
    have r49 : R2.1 49 = Mr.1 49 := by rw [p2 49 (by decide), st_ne (by decide), m2 49 (by decide)]
    obtain ⟨C3, R3, e1, e2, j1, j2, FC, FR⟩ := s_read hc1 hr1 hl w1 w2 w3
    obtain ⟨g1, g2, g3⟩ := aRead_ok (t := cutf t a L) (n := n - L) (mo := mo) (sp := sp) (dp := dp) hc1.1.1 w1 w3
    have hgf := j2.2.2.1.1.2.2.2.2.2.1
    generalize aPack (cutf t a L) mo sp dp 10 0 (n - L) 0 ([], 0, 0, 0) [] = R at e1 j1 j2 g1 g2 g3 hgf
    have eC : ∀ F : Mm, rX6_shrink_b54 (f + 1) (nI mo) (nI sp) (nI dp) (nI fc) (nI m) (nI a) (nI k) Mc = if nI R.1 = nI fc then rX6_shrink_b54 f (nI mo) (nI sp) (nI dp) (nI fc) (nI m) (nI a) (nI (k + 1)) C3 else (Option.bind (rX0_putBack 1 1200 1200 (nI a) C3) fun M26 => rX6_shrink_b54 f (nI mo) (nI sp) (nI dp) (nI fc) (nI m) (nI a + M26.1 30 k) (nI (k + 1)) M26) := fun F => by
      show rX6_shrink_b54_s (rX6_shrink_b54 f) (nI mo) (nI sp) (nI dp) (nI fc) (nI m) (nI a) (nI k) Mc = _
      unfold rX6_shrink_b54_s rX6_shrink_b123
      rw [if_neg (nI_ge (by omega) (by omega)), if_neg (nI_ge (by omega) (by omega))]
      have ngk : ¬ (nI k < 0 ∨ 600 ≤ k) := fun q => q.elim (nI_pos (by omega)) (by omega)
      simp only [if_neg ngk, nI_clamp (n := k) (show k < 2 ^ 31 by omega), b30, k1, Option.bind_some, e1, bd2_some, lt_e, nI_1]
    have eR : rX7_shrink_b92 (g + 1) (nI mo) (nI sp) (nI dp) (nI fc) (nI m) (nI gone) (nI k) Mr = if nI R.1 = nI fc then rX7_shrink_b92 g (nI mo) (nI sp) (nI dp) (nI fc) (nI m) (nI gone + nI L) (nI (k + 1)) R3 else rX7_shrink_b250 (rX7_shrink_b92 g) FU (nI mo) (nI sp) (nI dp) (nI fc) (nI m) (nI gone) (nI k) 0 (st R3 31 2 (nI n)) := by
      show rX7_shrink_b92_s (rX7_shrink_b92 g) (nI mo) (nI sp) (nI dp) (nI fc) (nI m) (nI gone) (nI k) Mr = _
      unfold rX7_shrink_b92_s
      rw [if_neg (nI_ge (by omega) (by omega)), nI_1, if_neg (nocl (by omega) (by decide)), lt_e, if_neg (nocl (by omega) (by decide)), if_neg (nocl (by omega) (by decide)), nI_clamp (n := k) (by omega), nI_clamp (n := k + 1) (by omega), lt_e, lt_e, b49, b49', hr.1.2.2.1, pk_sub (show gone ≤ off k by omega), pk_sub o1, hL, show off k - gone = a by omega]
      refine Eq.trans m1 (Eq.trans p1 ?_)
      unfold k183 rX7_shrink_b279
      rw [e2, Option.bind_some, hgf]
      simp only [lt_e, nI_1]
    rw [eC Mc, eR]
    by_cases q : R.1 = fc
    · rw [if_pos (by rw [q]), if_pos (by rw [q]), nI_add]
      refine ih (k + 1) f g (cutf t a L) (n - L) a (gone + L) R (rd + 1) C3 R3 (by omega) (by omega) (by omega) j1 j2 g1 (fun i hi => ?_) (fun h0 i hi => ?_) (by omega) (by omega)
      · rw [FC 30 (by decide), F1 30 (by decide) (by decide) (by decide)]; exact h30 i hi
      · rw [FR 49 (by decide), r49]; exact h49 h0 i hi
    · have q' : ¬ nI R.1 = nI fc := by rw [nI_eq (by omega) (by omega)]; exact q
      rw [if_neg q', if_neg q']
      obtain ⟨C4, k4, T4, F4, S4⟩ := c_back (M := C3) (t := t) (n := n) (a := a) (L := L) hn12 hc.1.2.1 (by omega) (by rw [FC 1 (by decide)]; exact T1.2.2.1) (fun i hi => by rw [FC 2 (by decide)]; exact T1.2.2.2 i hi) (fun i hi => by rw [FC 3 (by decide)]; exact K1 i hi) (by rw [FC 1 (by decide)]; exact Z1)
      have hc4 : CJ t n sd R (rd + 1) C4 := j1.to ⟨T4, by rw [S4]; exact j1.2.1, F4⟩
      obtain ⟨R4, m4', m5, m6, m7, m8⟩ := l_250 (q92 := rX7_shrink_b92 g) (x1 := nI mo) (x2 := nI sp) (x3 := nI dp) (x4 := nI fc) (x5 := nI m) (x6 := nI gone) (x7 := nI k) hn12 n 0 FU (st R3 31 2 (nI n)) (by omega) (by unfold FU; omega) (by rw [st_eq, upd_s])
      have DR4 : DR R3 t n sd R4 := by
        refine ⟨⟨hn12, hc.1.2.1, ?_, fun i hi => ?_⟩, ?_, fun c c1 c2 c3 c4 => ?_, fun i hi => ?_⟩
        · rw [m5 31 (by decide), st_eq, upd_s]
        · rw [m8 i (by omega) hi, st_ne (by decide), FR 48 (by decide)]; exact r48 i hi
        · rw [m6, st_2]; exact j2.2.1
        · rw [m5 c c2, st_ne c1]
        · rw [m5 31 (by decide), st_eq, upd_n hi]
      have hr4 : RJ t n sd R (rd + 1) R4 := j2.to DR4
      have c30 : ∀ i, C4.1 30 i = Mc.1 30 i := fun i => by rw [F4 30 (by decide) (by decide) (by decide), FC 30 (by decide), F1 30 (by decide) (by decide) (by decide)]
      have d49 : ∀ i, R4.1 49 i = Mr.1 49 i := fun i => by rw [m5 49 (by decide), st_ne (by decide), FR 49 (by decide), r49]
      obtain ⟨x, Mc', Mr', z1, z2, z3⟩ := ih (k + 1) f g t n (a + L) gone R (rd + 1) C4 R4 (by omega) (by omega) (by omega) hc4 hr4 g1 (fun i hi => by rw [c30]; exact h30 i hi) (fun h0 i hi => by rw [d49]; exact h49 h0 i hi) (by omega) (by omega)
      refine ⟨x, Mc', Mr', ?_, ?_, z3⟩
      · rw [k4, Option.bind_some, c30, b30, nI_add, z1]
      · refine Eq.trans m4' ?_
        unfold rX7_shrink_b279
        rw [lt_e, nI_1, z2]
end
theorem CJ.sa30 {t : Nat → Nat} {n : Nat} {sd : Int64} {r : Pr} {rd : Int32} {M : Mm} (f : Nat → Int32) (h : CJ t n sd r rd M) : CJ t n sd r rd (sa M 30 f) := by
  obtain ⟨hT, hs, ⟨p', hv⟩, hi, h5⟩ := h
  have hc : ∀ c, c ≠ 30 → (sa M 30 f).1 c = M.1 c := fun c hc => sa_o hc
  refine ⟨?_, hs, ⟨p', ?_⟩, ?_, by rw [hc 5 (by decide)]; exact h5⟩
  · unfold TpC
    rw [hc 1 (by decide), hc 2 (by decide)]
    exact hT
  · unfold VW
    rw [hc 5 (by decide), hc 6 (by decide), hc 7 (by decide)]
    exact hv
  · unfold IV
    rw [hc 9 (by decide), hc 10 (by decide), hc 11 (by decide), hc 12 (by decide), hc 13 (by decide), hc 14 (by decide)]
    exact hi
theorem s_shrink {Mc Mr : Mm} (h : JJ Mc Mr) (a1 a2 a3 : Int32) : Step2 (rX6_shrink a1 a2 a3) (rX7_shrink a1 a2 a3) Mc Mr := by
  obtain ⟨t, n, sd, r, rd, hc, hr, h1, h2, h3⟩ := id h
  rcases bnds a1 a2 a3 with q | ⟨mo, sp, dp, w1, w2, w3, rfl, rfl, rfl, q⟩
  · refine ⟨-2, Mc, Mr, ?_, ?_, h⟩
    · unfold rX6_shrink; rw [(q Mc).1]; rfl
    · unfold rX7_shrink; rw [(q Mr).2]; rfl
  · obtain ⟨C1, R1, e1, e2, j1, j2, -, -⟩ := s_read hc hr h1 w1 w2 w3
    obtain ⟨g1, g2, g3⟩ := aRead_ok (t := t) (n := n) (mo := mo) (sp := sp) (dp := dp) hc.1.1 w1 w3
    have hch := aRead_ch (t := t) (n := n) (mo := mo) (sp := sp) (dp := dp) w3
    have hgf := j2.2.2.1.1.2.2.2.2.2.1
    have h38 := j2.2.2.1.2.2.1
    have h36 := j2.2.2.1.2.2.2
    have hIR := j2.2.2.1.2.1
    have hIV := j1.2.2.2.1
    have hn := hc.1.1
    generalize aPack t mo sp dp 10 0 n 0 ([], 0, 0, 0) [] = R at e1 j1 j2 g1 g2 g3 hgf h38 h36 hIR hIV hch
    by_cases c1 : R.1 = 0
    · refine ⟨-3, C1, R1, ?_, ?_, t, n, sd, R, _, j1, j2, g1, g2, g3⟩
      · unfold rX6_shrink
        rw [(q Mc).1, bd2_some, if_neg (by decide), e1, bd2_some, if_pos (by rw [c1]; rfl)]
      · unfold rX7_shrink
        rw [(q Mr).2, bd2_some, if_neg (by decide), e2, Option.bind_some, hgf, if_pos (by rw [c1]; rfl)]
    · have nz : ¬ nI R.1 = 0 := nI_ne0 (by omega) (by omega)
      obtain ⟨rc, hrc⟩ : ∃ rc, rc = R.2.2.2.2 := ⟨_, rfl⟩
      rw [← hrc] at g2 h38 h36 hIR hIV hch
      obtain ⟨off, hoff⟩ : ∃ off : Nat → Nat, off = fun k => if rc.length = 0 then 2 else 2 + sl (rc.take k) := ⟨_, rfl⟩
      have c0 : (0 : Int32).toNatClampNeg = 0 := by decide
      -- the class copies the lengths
      have eL : rX1_copyLengths C1 = some (nI rc.length, sa C1 30 (va_cpy (C1.1 14) (C1.1 30) 0 0 rc.length)) := by
        unfold rX1_copyLengths
        rw [hIV.1, if_neg (nI_nlt (a := 600) (b := rc.length) (by omega) (by omega)), lt_e, c0, nI_clamp (by omega), if_neg ?_]
        · rfl
        · rintro (q | q | q | q | q)
          · exact absurd q (by decide)
          · exact absurd q (by decide)
          · exact nI_pos (by omega) q
          · omega
          · omega
      obtain ⟨R2, p1, p2, p3, p4⟩ := l_46 (x1 := nI mo) (x2 := nI sp) (x3 := nI dp) (x4 := nI R.1) g2 rc.length 0 FU R1 (by omega) (by unfold FU; omega) (fun i hi => by omega)
      have hc3 := j1.sa30 (va_cpy (C1.1 14) (C1.1 30) 0 0 rc.length)
      have DR3 : DR R1 t n sd (st R2 49 rc.length (R1.1 36 0)) := by
        refine ⟨⟨hn, hc.1.2.1, ?_, fun i hi => ?_⟩, ?_, fun c b1 b2 b3 b4 => ?_, fun i hi => ?_⟩
        · rw [st_ne (by decide), p2 31 (by decide)]; exact j2.1.2.2.1
        · rw [st_ne (by decide), p2 32 (by decide)]; exact j2.1.2.2.2 i hi
        · rw [st_2, p3]; exact j2.2.1
        · rw [st_ne b4, p2 c b4]
        · rw [st_ne (by decide), p2 31 (by decide)]
      have hr3 := j2.to DR3
      have off_s : ∀ i, i < rc.length → off (i + 1) - off i = (rc.getD i (0, 0, 0, 0, 0)).2.2.2.2 ∧ off i ≤ off (i + 1) := fun i hi => by
        have s1 := sl_take rc i hi
        have l0 : ¬ rc.length = 0 := by omega
        simp only [hoff, if_neg l0]
        omega
      have off_m : ∀ j i, i + j ≤ rc.length → off i ≤ off (i + j) := by
        intro j
        induction j with
        | zero => intro i _; exact Nat.le_refl _
        | succ j ih => intro i hi; exact Nat.le_trans (ih i (by omega)) (off_s (i + j) (by omega)).2
      have off_e : off rc.length ≤ n ∨ rc.length = 0 := by
        by_cases l0 : rc.length = 0
        · exact Or.inr l0
        · refine Or.inl ?_
          simp only [hoff, if_neg l0, List.take_length]
          exact (hch l0).2
      by_cases l0 : rc.length = 0
      · obtain ⟨x, C9, R9, z1, z2, z3⟩ := shr_end w1 w2 w3 hc3 hr3 g1
        refine ⟨x, C9, R9, ?_, ?_, z3⟩
        · unfold rX6_shrink
          rw [(q Mc).1, bd2_some, if_neg (by decide), e1, bd2_some, if_neg nz, eL, bd2_some]
          show rX6_shrink_b54_s (rX6_shrink_b54 99999) (nI mo) (nI sp) (nI dp) (nI R.1) (nI rc.length) 2 0 _ = _
          unfold rX6_shrink_b54_s
          rw [if_pos (by rw [l0]; decide), z1]
        · unfold rX7_shrink
          rw [(q Mr).2, bd2_some, if_neg (by decide), e2, Option.bind_some, hgf, if_neg nz, lt_e, c0, if_neg (by decide), lt_e, h38]
          refine Eq.trans p1 ?_
          show rX7_shrink_b92_s (rX7_shrink_b92 99999) (nI mo) (nI sp) (nI dp) (nI R.1) (nI rc.length) 0 0 _ = _
          unfold rX7_shrink_b92_s
          rw [if_pos (by rw [l0]; decide), z2]
      · have off_n : off rc.length ≤ n := off_e.resolve_right l0
        have off_0 : off 0 = 2 := by simp only [hoff, if_neg l0, List.take_zero]; rfl
        obtain ⟨x, C9, R9, z1, z2, z3⟩ := g_shr (sd := sd) (m := rc.length) (off := off) (fc := R.1) w1 w2 w3 g2 g3 (fun i hi => (off_s i hi).2) (fun i hi => by have := off_m (rc.length - i) i (by omega); rwa [show i + (rc.length - i) = rc.length by omega] at this) (by omega) rc.length 0 FU FU t n 2 0 R (rd + 1) _ _ (by omega) (by unfold FU; omega) (by unfold FU; omega) hc3 hr3 g1
          (fun i hi => by rw [sa_e, pk_cpy_in (by omega) (by omega), Nat.sub_zero, Nat.zero_add, (hIV.2 i hi).2.2.2.2, (off_s i hi).1])
          (fun _ i hi => by
            rw [st_eq]
            by_cases w : i = rc.length
            · rw [w, upd_s, h36 l0]
              simp only [hoff, if_neg l0, List.take_length]
            · rw [upd_n w, p4 i (by omega), (hIR i (by omega)).2.1, (hch l0).1 i (by omega)]
              simp only [hoff, if_neg l0]) (by omega) (by omega)
        refine ⟨x, C9, R9, ?_, ?_, z3⟩
        · unfold rX6_shrink
          rw [(q Mc).1, bd2_some, if_neg (by decide), e1, bd2_some, if_neg nz, eL, bd2_some]
          exact z1
        · unfold rX7_shrink
          rw [(q Mr).2, bd2_some, if_neg (by decide), e2, Option.bind_some, hgf, if_neg nz, lt_e, c0, if_neg (by decide), lt_e, h38]
          exact Eq.trans p1 z2
