theorem aLoop_rc {mo sp dp fr e oa : Nat} {t : Nat → Nat} {nest : Nat → Nat → Nat → Gs → Pr} (hN : OkN mo sp nest) (hdp : dp ≤ 8) : ∀ (f p : Nat) (ends : List Nat) (g : Gs) (rc : Rc), OkG mo sp g g → p ≤ e → 2 * rc.length + 2 ≤ p → 2 * (aLoop nest t mo sp dp fr e oa 0 f p ends g rc).2.2.2.2.length + 2 ≤ e
  | 0, p, ends, g, rc, hg, hp, hl => by show 2 * rc.length + 2 ≤ e; omega
  | f + 1, p, ends, g, rc, hg, hp, hl => by
    rw [aLoop]
    split
    · show 2 * rc.length + 2 ≤ e; omega
    split
    · split
      · show 2 * rc.length + 2 ≤ e; omega
      split
      · show 2 * rc.length + 2 ≤ e; omega
      split
      · show 2 * rc.length + 2 ≤ e; omega
      · show 2 * rc.length + 2 ≤ e; omega
    obtain ⟨i1, i2, i3⟩ := ok_item (t := t) (e := e) (oa := oa) (dep := 0) (p := p) (ends := ends) hN hg hdp
    split
    · rename_i h0
      obtain ⟨j1, j2, j3⟩ := i3 h0
      refine aLoop_rc hN hdp f _ _ _ _ i1.own j2 ?_
      unfold aRec
      rw [if_pos rfl]
      simp; omega
    · show 2 * rc.length + 2 ≤ e; omega
theorem aRead_ok {t : Nat → Nat} {n mo sp dp : Nat} (hn : n ≤ 1200) (h1 : mo ≤ 4000) (h3 : dp ≤ 8) : (aPack t mo sp dp 10 0 n 0 ([], 0, 0, 0) []).2.2.2.1.1.length ≤ 4000 ∧ (aPack t mo sp dp 10 0 n 0 ([], 0, 0, 0) []).2.2.2.2.length < 600 ∧ (aPack t mo sp dp 10 0 n 0 ([], 0, 0, 0) []).1 < 100 := by
  have hg0 : OkG mo sp ([], 0, 0, 0) ([], 0, 0, 0) := ⟨Nat.le_refl _, Nat.zero_le _, Nat.le_refl _, Nat.zero_le _, by decide, by decide⟩
  have ok := ok_pack (t := t) h3 10 0 n 0 ([], 0, 0, 0) [] hg0 (by decide)
  refine ⟨Nat.le_trans ok.1.2.1 h1, ?_, ok.2.1⟩
  rw [aPack_mkr]
  by_cases c1 : sp < 0 + 4
  · rw [if_pos c1]; exact (by decide : 0 < 600)
  rw [if_neg c1]
  by_cases c2 : (mkr t 0 n).1 ≠ 0
  · rw [if_pos c2]; exact (by decide : 0 < 600)
  rw [if_neg c2]
  have c2' : (mkr t 0 n).1 = 0 := Classical.not_not.mp c2
  obtain ⟨m1, m2⟩ := mkr_0 c2'
  have := aLoop_rc (t := t) (fr := 0) (e := n) (oa := ([] : List Nat).length) (ok_nest (t := t) h3 9) h3 1300 (0 + 2) [] (aG1 0 ([], 0, 0, 0)) [] (ok_g1 hg0 (by decide) c1) m1 (by decide)
  refine Nat.lt_of_not_le (fun q => ?_)
  have q' := Nat.le_trans (Nat.add_le_add_right (Nat.mul_le_mul_left 2 q) 2) this
  omega
theorem bnds (a0 a1 a2 : Int32) : (∀ M : Mm, rX6_areBounds a0 a1 a2 M = some (0, M) ∧ rX7_isGood a0 a1 a2 M = some (0, M)) ∨ (∃ mo sp dp : Nat, mo ≤ 4000 ∧ sp ≤ 20000 ∧ dp ≤ 8 ∧ a0 = nI mo ∧ a1 = nI sp ∧ a2 = nI dp ∧ ∀ M : Mm, rX6_areBounds a0 a1 a2 M = some (1, M) ∧ rX7_isGood a0 a1 a2 M = some (1, M)) := by
  have lit : ∀ (N : Nat), N < 2 ^ 30 → ∀ x : Int32, nI (N + 1) ≤ x → nI N < x := fun N hN x h => by
    rw [Int32.lt_iff_toInt_lt, nI_toInt (by omega)]
    rw [Int32.le_iff_toInt_le, nI_toInt (by omega)] at h
    omega
  have c4 : ((4000 : Int32)).toInt64 = (4000 : Int64) := by decide
  have c2 : ((20000 : Int32)).toInt64 = (20000 : Int64) := by decide
  have c8 : ((8 : Int32)).toInt64 = (8 : Int64) := by decide
  rcases pk_ix a0 (n := 4001) (by decide) with q | q | ⟨j0, hj0, q0⟩
  · refine Or.inl (fun M => ⟨?_, ?_⟩)
    · unfold rX6_areBounds; rw [if_pos q]; rfl
    · unfold rX7_isGood; rw [in_neg q (by decide)]; rfl
  · have q' : (4000 : Int32) < a0 := lit 4000 (by decide) a0 q
    refine Or.inl (fun M => ⟨?_, ?_⟩)
    · unfold rX6_areBounds; rw [if_pos q']; split <;> rfl
    · unfold rX7_isGood; rw [← c4, in_big q']; rfl
  have n0 : ¬ a0 < 0 := by rw [q0]; exact nI_pos (by omega)
  have m0 : ¬ (4000 : Int32) < a0 := by rw [q0, show (4000 : Int32) = nI 4000 from rfl, nI_ltI (by decide) (by omega)]; omega
  rcases pk_ix a1 (n := 20001) (by decide) with q | q | ⟨j1, hj1, q1⟩
  · refine Or.inl (fun M => ⟨?_, ?_⟩)
    · unfold rX6_areBounds; rw [if_neg n0, if_neg m0, if_pos q]; rfl
    · unfold rX7_isGood; rw [← c4, in_ok n0 m0, bd2_some, if_neg (by decide), in_neg q (by decide)]; rfl
  · have q' : (20000 : Int32) < a1 := lit 20000 (by decide) a1 q
    refine Or.inl (fun M => ⟨?_, ?_⟩)
    · unfold rX6_areBounds; rw [if_neg n0, if_neg m0, if_pos q']; split <;> rfl
    · unfold rX7_isGood; rw [← c4, ← c2, in_ok n0 m0, bd2_some, if_neg (by decide), in_big q']; rfl
  have n1 : ¬ a1 < 0 := by rw [q1]; exact nI_pos (by omega)
  have m1 : ¬ (20000 : Int32) < a1 := by rw [q1, show (20000 : Int32) = nI 20000 from rfl, nI_ltI (by decide) (by omega)]; omega
  rcases pk_ix a2 (n := 9) (by decide) with q | q | ⟨j2, hj2, q2⟩
  · refine Or.inl (fun M => ⟨?_, ?_⟩)
    · unfold rX6_areBounds; rw [if_neg n0, if_neg m0, if_neg n1, if_neg m1, if_pos q]; rfl
    · unfold rX7_isGood; rw [← c4, ← c2, in_ok n0 m0, bd2_some, if_neg (by decide), in_ok n1 m1, bd2_some, if_neg (by decide), in_neg q (by decide)]; rfl
  · have q' : (8 : Int32) < a2 := lit 8 (by decide) a2 q
    refine Or.inl (fun M => ⟨?_, ?_⟩)
    · unfold rX6_areBounds; rw [if_neg n0, if_neg m0, if_neg n1, if_neg m1, if_pos q']; split <;> rfl
    · unfold rX7_isGood; rw [← c4, ← c2, ← c8, in_ok n0 m0, bd2_some, if_neg (by decide), in_ok n1 m1, bd2_some, if_neg (by decide), in_big q']; rfl
  have n2 : ¬ a2 < 0 := by rw [q2]; exact nI_pos (by omega)
  have m2 : ¬ (8 : Int32) < a2 := by rw [q2, show (8 : Int32) = nI 8 from rfl, nI_ltI (by decide) (by omega)]; omega
  refine Or.inr ⟨j0, j1, j2, by omega, by omega, by omega, q0, q1, q2, fun M => ⟨?_, ?_⟩⟩
  · unfold rX6_areBounds; rw [if_neg n0, if_neg m0, if_neg n1, if_neg m1, if_neg n2, if_neg m2]; rfl
  · unfold rX7_isGood; rw [← c4, ← c2, ← c8, in_ok n0 m0, bd2_some, if_neg (by decide), in_ok n1 m1, bd2_some, if_neg (by decide), in_ok n2 m2]; rfl
section
variable {Mc Mr : Mm}
/-- a READ on both sides -/
theorem s_read {t : Nat → Nat} {n mo sp dp : Nat} {sd : Int64} {r : Pr} {rd : Int32} (hc : CJ t n sd r rd Mc) (hr : RJ t n sd r rd Mr) (hl : r.2.2.2.1.1.length ≤ 4000) (h1 : mo ≤ 4000) (h2 : sp ≤ 20000) (h3 : dp ≤ 8) :
    ∃ Mc' Mr', rX4_read (nI mo) (nI sp) (nI dp) Mc = some (nI (aPack t mo sp dp 10 0 n 0 ([], 0, 0, 0) []).1, Mc') ∧ rX7_reads (nI mo) (nI sp) (nI dp) Mr = some Mr' ∧ CJ t n sd (aPack t mo sp dp 10 0 n 0 ([], 0, 0, 0) []) (rd + 1) Mc' ∧ RJ t n sd (aPack t mo sp dp 10 0 n 0 ([], 0, 0, 0) []) (rd + 1) Mr' ∧ (∀ c, (c < 5 ∨ c = 8 ∨ c = 19 ∨ 29 < c) → Mc'.1 c = Mc.1 c) ∧ (∀ c, (c < 31 ∨ c = 32 ∨ 47 < c) → Mr'.1 c = Mr.1 c) := by
  obtain ⟨tc, sc, ⟨p', hv⟩, -, rc⟩ := hc
  obtain ⟨tr, sr, -, rr⟩ := hr
  obtain ⟨Mc', pp, e1, v1, i1, k1, k2, k3⟩ := e_read (mo := mo) (sp := sp) (dp := dp) tc h1 h2 h3 hv.2.2.2.2.2.2.1 hl
  obtain ⟨Mr', e2, r2, k4, k5, k6, k7⟩ := r_read (mo := mo) (sp := sp) (dp := dp) tr h1 h2 h3
  obtain ⟨t1, t2, t3, t4⟩ := tc
  obtain ⟨u1, u2, u3, u4⟩ := tr
  refine ⟨Mc', Mr', e1, e2, ⟨⟨t1, t2, by rw [k2 1 (by decide)]; exact t3, fun i hi => by rw [k2 2 (by decide)]; exact t4 i hi⟩, by rw [k3]; exact sc, ⟨pp, v1⟩, i1, by rw [k1, rc]⟩, ⟨⟨u1, u2, by rw [k6]; exact u3, fun i hi => by rw [k5 32 (by decide)]; exact u4 i hi⟩, by rw [k7]; exact sr, r2, by rw [k4, rr]⟩, k2, k5⟩
theorem s_open (h : JJ Mc Mr) (a1 a2 a3 : Int32) : Step2 (rX6_open a1 a2 a3) (rX7_open a1 a2 a3) Mc Mr := by
  obtain ⟨t, n, sd, r, rd, hc, hr, h1, h2, h3⟩ := id h
  rcases bnds a1 a2 a3 with q | ⟨mo, sp, dp, w1, w2, w3, rfl, rfl, rfl, q⟩
  · refine ⟨-2, Mc, Mr, ?_, ?_, h⟩
    · unfold rX6_open; rw [(q Mc).1]; rfl
    · unfold rX7_open; rw [(q Mr).2]; rfl
  · obtain ⟨Mc', Mr', e1, e2, j1, j2, -, -⟩ := s_read hc hr h1 w1 w2 w3
    obtain ⟨g1, g2, g3⟩ := aRead_ok (t := t) (n := n) (mo := mo) (sp := sp) (dp := dp) hc.1.1 w1 w3
    have hJ : JJ Mc' Mr' := ⟨t, n, sd, _, _, j1, j2, g1, g2, g3⟩
    obtain ⟨-, -, ⟨p', hv⟩, -⟩ := j1
    have hg := j2.2.2.1.1
    generalize aPack t mo sp dp 10 0 n 0 ([], 0, 0, 0) [] = R at e1 hv hg g1 g3
    by_cases c1 : R.1 = 0
    · refine ⟨nI R.2.2.2.1.1.length, Mc', Mr', ?_, ?_, hJ⟩
      · unfold rX6_open
        rw [(q Mc).1, bd2_some, if_neg (by decide), e1, bd2_some, if_pos (by rw [c1]; rfl), hv.2.2.2.2.2.2.1]
      · unfold rX7_open
        rw [(q Mr).2, bd2_some, if_neg (by decide), e2, Option.bind_some, hg.2.2.2.2.2.1, if_pos (by rw [c1]; decide), hg.1]
    · refine ⟨-10 - nI R.1, Mc', Mr', ?_, ?_, hJ⟩
      · unfold rX6_open
        rw [(q Mc).1, bd2_some, if_neg (by decide), e1, bd2_some, if_neg (nI_ne0 (by omega) (by omega))]
      · unfold rX7_open
        rw [(q Mr).2, bd2_some, if_neg (by decide), e2, Option.bind_some, hg.2.2.2.2.2.1, if_neg (by rw [k_0, nI_leI (by omega) (by omega)]; omega)]
end
theorem CJ.tape {t t' : Nat → Nat} {n n' : Nat} {sd : Int64} {r : Pr} {rd : Int32} {M M' : Mm} (h : CJ t n sd r rd M) (hc : ∀ c, c ≠ 1 → c ≠ 2 → c ≠ 3 → M'.1 c = M.1 c) (h2 : M'.2 = M.2) (hT : TpC t' n' M') : CJ t' n' sd r rd M' := by
  obtain ⟨-, h2', ⟨p', hv⟩, hi, h5⟩ := h
  refine ⟨hT, by rw [h2]; exact h2', ⟨p', ?_⟩, ?_, by rw [hc 5 (by decide) (by decide) (by decide)]; exact h5⟩
  · unfold VW
    rw [hc 5 (by decide) (by decide) (by decide), hc 6 (by decide) (by decide) (by decide), hc 7 (by decide) (by decide) (by decide)]
    exact hv
  · unfold IV
    rw [hc 9 (by decide) (by decide) (by decide), hc 10 (by decide) (by decide) (by decide), hc 11 (by decide) (by decide) (by decide), hc 12 (by decide) (by decide) (by decide), hc 13 (by decide) (by decide) (by decide), hc 14 (by decide) (by decide) (by decide)]
    exact hi
theorem RJ.tape {t t' : Nat → Nat} {n n' : Nat} {sd : Int64} {r : Pr} {rd : Int32} {M M' : Mm} (h : RJ t n sd r rd M) (hc : ∀ c, c ≠ 31 → c ≠ 32 → c ≠ 48 → c ≠ 49 → M'.1 c = M.1 c) (h31 : ∀ j, j ≠ 2 → M'.1 31 j = M.1 31 j) (h2 : M'.2 = M.2) (hT : TpR t' n' M') : RJ t' n' sd r rd M' := by
  obtain ⟨-, h2', ⟨hg, hi, h38, h36⟩, h5⟩ := h
  have c33 := hc 33 (by decide) (by decide) (by decide) (by decide)
  have c36 := hc 36 (by decide) (by decide) (by decide) (by decide)
  have c38 := hc 38 (by decide) (by decide) (by decide) (by decide)
  refine ⟨hT, by rw [h2]; exact h2', ⟨?_, ?_, by rw [c38]; exact h38, fun q => by rw [c36]; exact h36 q⟩, by rw [h31 13 (by decide)]; exact h5⟩
  · unfold RG
    rw [c33, h31 4 (by decide), h31 10 (by decide), h31 11 (by decide), h31 12 (by decide), h31 8 (by decide), h31 9 (by decide)]
    exact hg
  · unfold IR
    rw [hc 43 (by decide) (by decide) (by decide) (by decide), hc 44 (by decide) (by decide) (by decide) (by decide), hc 45 (by decide) (by decide) (by decide) (by decide), hc 46 (by decide) (by decide) (by decide) (by decide)]
    exact hi
