/-- the class: the tape, the seed, the latest READ, the count of READS -/
def CJ (t : Nat → Nat) (n : Nat) (sd : Int64) (r : Pr) (rd : Int32) (M : Mm) : Prop := TpC t n M ∧ M.2 4 1 = sd ∧ (∃ p', VW M p' r.2.2.2.1 r.1 r.2.1) ∧ IV M r.2.2.2.2 ∧ M.1 5 17 = rd
/-- the reference: the same -/
def RJ (t : Nat → Nat) (n : Nat) (sd : Int64) (r : Pr) (rd : Int32) (M : Mm) : Prop := TpR t n M ∧ M.2 31 0 = sd ∧ RdR M r ∧ M.1 31 13 = rd
def JJ (Mc Mr : Mm) : Prop := ∃ t n sd r rd, CJ t n sd r rd Mc ∧ RJ t n sd r rd Mr ∧ r.2.2.2.1.1.length ≤ 4000 ∧ r.2.2.2.2.length < 600 ∧ r.1 < 100
/-- a call: both answer alike, and stay alike -/
def Step2 (fc fr : Mm → Option (Int32 × Mm)) (Mc Mr : Mm) : Prop := ∃ x Mc' Mr', fc Mc = some (x, Mc') ∧ fr Mr = some (x, Mr') ∧ JJ Mc' Mr'
theorem in_neg {x : Int32} {b c : Int64} {M : Mm} (h : x < 0) (hb : 0 ≤ b.toInt) : rX7_in x.toInt64 b c M = some (0, M) := by
  refine r_in0 (Or.inl ?_)
  rw [Int64.lt_iff_toInt_lt, Int32.toInt_toInt64]
  rw [Int32.lt_iff_toInt_lt] at h
  have : (0 : Int32).toInt = 0 := by decide
  omega
theorem in_big {x y : Int32} {b : Int64} {M : Mm} (h : y < x) : rX7_in x.toInt64 b y.toInt64 M = some (0, M) := by
  refine r_in0 (Or.inr ?_)
  rw [Int64.lt_iff_toInt_lt, Int32.toInt_toInt64, Int32.toInt_toInt64]
  exact Int32.lt_iff_toInt_lt.mp h
theorem in_ok {x y : Int32} {M : Mm} (h : ¬ x < 0) (h2 : ¬ y < x) : rX7_in x.toInt64 0 y.toInt64 M = some (1, M) := by
  refine r_in1 ?_ ?_
  · rw [Int64.lt_iff_toInt_lt, Int32.toInt_toInt64]
    rw [Int32.lt_iff_toInt_lt] at h
    have h0 : (0 : Int32).toInt = 0 := by decide
    have h1 : (0 : Int64).toInt = 0 := by decide
    omega
  · rw [Int64.lt_iff_toInt_lt, Int32.toInt_toInt64, Int32.toInt_toInt64]
    rw [Int32.lt_iff_toInt_lt] at h2
    exact h2
theorem pred_lt {n : Nat} (hn : n < 2 ^ 30) (x : Int32) : nI n - 1 < x ↔ nI n ≤ x := by
  rw [Int32.lt_iff_toInt_lt, Int32.le_iff_toInt_le, show (1 : Int32) = nI 1 from rfl, pk_sub_toInt hn (by decide), nI_toInt (by omega)]
  omega
section
variable {Mc Mr : Mm}
theorem s_place (h : JJ Mc Mr) : Step2 rX6_place rX7_place Mc Mr := by
  obtain ⟨t, n, sd, r, rd, hc, hr, h1⟩ := h
  refine ⟨r.2.1, Mc, Mr, ?_, ?_, t, n, sd, r, rd, hc, hr, h1⟩
  · obtain ⟨-, -, ⟨p', hv⟩, -⟩ := hc
    unfold rX6_place
    rw [hv.2.2.2.2.2.1]
  · unfold rX7_place
    rw [hr.2.2.1.1.2.2.2.2.2.2]
theorem s_count (h : JJ Mc Mr) (a : Int32) : Step2 (rX6_count a) (rX7_count a) Mc Mr := by
  obtain ⟨t, n, sd, r, rd, hc, hr, h1⟩ := id h
  obtain ⟨tc, -, ⟨p', hv⟩, -, c5⟩ := id hc
  obtain ⟨tr, -, rr, r5⟩ := id hr
  have key : ∃ x, rX6_count a Mc = some (x, Mc) ∧ rX7_count a Mr = some (x, Mr) := by
    unfold rX6_count rX7_count
    rw [tc.2.2.1, tr.2.2.1, hv.2.2.2.2.2.2.1, rr.1.1, hv.2.1, rr.1.2.2.1, hv.2.2.1, rr.1.2.2.2.1, hv.2.2.2.1, rr.1.2.2.2.2.1, hv.2.2.2.2.1, rr.1.2.2.2.2.2.1, c5, r5]
    by_cases q0 : a = 0
    · rw [if_pos q0, if_pos q0]; exact ⟨_, rfl, rfl⟩
    rw [if_neg q0, if_neg q0]
    by_cases q1 : a = 1
    · rw [if_pos q1, if_pos q1]; exact ⟨_, rfl, rfl⟩
    rw [if_neg q1, if_neg q1]
    by_cases q2 : a = 2
    · rw [if_pos q2, if_pos q2]; exact ⟨_, rfl, rfl⟩
    rw [if_neg q2, if_neg q2]
    by_cases q3 : a = 3
    · rw [if_pos q3, if_pos q3]; exact ⟨_, rfl, rfl⟩
    rw [if_neg q3, if_neg q3]
    by_cases q4 : a = 4
    · rw [if_pos q4, if_pos q4]; exact ⟨_, rfl, rfl⟩
    rw [if_neg q4, if_neg q4]
    by_cases q5 : a = 5
    · rw [if_pos q5, if_pos q5]; exact ⟨_, rfl, rfl⟩
    rw [if_neg q5, if_neg q5]
    by_cases q6 : a = 6
    · rw [if_pos q6, if_pos q6]; exact ⟨_, rfl, rfl⟩
    rw [if_neg q6, if_neg q6]
    exact ⟨_, rfl, rfl⟩
  obtain ⟨x, e1, e2⟩ := key
  exact ⟨x, Mc, Mr, e1, e2, h⟩
/-- reading a row by an index that may be any int -/
theorem get_any {M : Mm} {o n1 n2 k : Nat} {x : Int32} (h : M.1 o 1 = nI k) (hk : k ≤ n1) (hn : n1 < 2 ^ 30) : (x < 0 → rX0_get o n1 n2 x M = some (-1, M)) ∧ (nI k ≤ x → rX0_get o n1 n2 x M = some (-1, M)) ∧ (∀ j, j < k → x = nI j → rX0_get o n1 n2 x M = some (M.1 (o + 1) j, M)) := by
  refine ⟨fun q => ?_, fun q => ?_, fun j hj hx => ?_⟩
  · unfold rX0_get; rw [if_pos q]
  · unfold rX0_get; rw [h, if_pos q, ite_self]
  · subst hx
    unfold rX0_get
    rw [if_neg (nI_pos (by omega)), h, if_neg (by rw [nI_leI (by omega) (by omega)]; omega), if_neg (nocl (a := j) (by omega) (by omega)), nI_clamp (by omega)]
theorem s_at (h : JJ Mc Mr) (a : Int32) : Step2 (rX6_at a) (rX7_at a) Mc Mr := by
  obtain ⟨t, n, sd, r, rd, hc, hr, h1⟩ := id h
  obtain ⟨t1, t2, t3, t4⟩ := hc.1
  obtain ⟨u1, u2, u3, u4⟩ := hr.1
  have key : ∃ x, rX6_at a Mc = some (x, Mc) ∧ rX7_at a Mr = some (x, Mr) := by
    unfold rX6_at rX7_at
    obtain ⟨g1, g2, g3⟩ := get_any (x := a) (n2 := 1200) t3 t1 (by decide)
    rw [u3]
    rcases pk_ix a (n := n) (by omega) with q | q | ⟨j, hj, q⟩
    · rw [g1 q, in_neg q (by decide)]
      exact ⟨_, rfl, rfl⟩
    · rw [g2 q, in_big ((pred_lt (by omega) a).mpr q)]
      exact ⟨_, rfl, rfl⟩
    · have hnn : ¬ a < 0 := by rw [q]; exact nI_pos (by omega)
      rw [g3 j hj q, in_ok hnn (by rw [pred_lt (by omega), q, nI_leI (by omega) (by omega)]; omega), bd2_some, bd2_some, if_neg (by decide), q, if_neg (nocl (by omega) (by decide)), nI_clamp (by omega), show 1 + 1 = 2 from rfl, t4 j hj, u4 j hj]
      exact ⟨_, rfl, rfl⟩
  obtain ⟨x, e1, e2⟩ := key
  exact ⟨x, Mc, Mr, e1, e2, h⟩
theorem s_out (h : JJ Mc Mr) (a : Int32) : Step2 (rX6_out a) (rX7_out a) Mc Mr := by
  obtain ⟨t, n, sd, r, rd, hc, hr, h1, h2⟩ := id h
  obtain ⟨-, -, ⟨p', hv⟩, -⟩ := hc
  have hg := hr.2.2.1.1
  have key : ∃ x, rX6_out a Mc = some (x, Mc) ∧ rX7_out a Mr = some (x, Mr) := by
    unfold rX6_out rX7_out
    obtain ⟨g1, g2, g3⟩ := get_any (x := a) (n1 := 4000) (n2 := 0) hv.2.2.2.2.2.2.1 h1 (by decide)
    rw [hg.1]
    rcases pk_ix a (n := r.2.2.2.1.1.length) (by omega) with q | q | ⟨j, hj, q⟩
    · rw [g1 q, in_neg q (by decide)]
      exact ⟨_, rfl, rfl⟩
    · rw [g2 q, in_big ((pred_lt (by omega) a).mpr q)]
      exact ⟨_, rfl, rfl⟩
    · have hnn : ¬ a < 0 := by rw [q]; exact nI_pos (by omega)
      rw [g3 j hj q, in_ok hnn (by rw [pred_lt (by omega), q, nI_leI (by omega) (by omega)]; omega), bd2_some, bd2_some, if_neg (by decide), q, if_neg (nocl (by omega) (by decide)), nI_clamp (by omega), show 6 + 1 = 7 from rfl, hv.2.2.2.2.2.2.2 j hj, hg.2.1 j hj]
      exact ⟨_, rfl, rfl⟩
  obtain ⟨x, e1, e2⟩ := key
  exact ⟨x, Mc, Mr, e1, e2, h⟩
theorem s_item (h : JJ Mc Mr) (a b : Int32) : Step2 (rX6_item a b) (rX7_item_ a b) Mc Mr := by
  obtain ⟨t, n, sd, r, rd, hc, hr, h1, h2, h3⟩ := id h
  obtain ⟨-, -, -, hi, -⟩ := hc
  obtain ⟨hg, hir, h38, -⟩ := hr.2.2.1
  have n0 : ¬ ((0 : Int32) < 0 ∨ (10 : Nat) ≤ 0) := by decide
  have c0 : (0 : Int32).toNatClampNeg = 0 := by decide
  have key : ∃ x, rX6_item a b Mc = some (x, Mc) ∧ rX7_item_ a b Mr = some (x, Mr) := by
    unfold rX6_item rX7_item_ rX1_get
    rw [hi.1]
    simp only [c0, if_neg n0, h38]
    by_cases q : a = -1
    · rw [if_pos q, if_pos q]
      exact ⟨_, rfl, rfl⟩
    rw [if_neg q, if_neg q]
    rcases pk_ix a (n := r.2.2.2.2.length) (by omega) with q1 | q1 | ⟨j, hj, q1⟩
    · rw [if_pos q1, in_neg q1 (by decide)]
      exact ⟨_, rfl, rfl⟩
    · rw [in_big ((pred_lt (by omega) a).mpr q1)]
      by_cases q2 : a < 0
      · rw [if_pos q2]; exact ⟨_, rfl, rfl⟩
      · have q3 : ¬ a < nI r.2.2.2.2.length := by
          rw [Int32.lt_iff_toInt_lt]
          rw [Int32.le_iff_toInt_le] at q1
          omega
        rw [if_neg q2, if_neg q3]; exact ⟨_, rfl, rfl⟩
    · have hnn : ¬ a < 0 := by rw [q1]; exact nI_pos (by omega)
      have hlt : a < nI r.2.2.2.2.length := by rw [q1]; exact (nI_ltI (by omega) (by omega)).mpr hj
      have ngj : ¬ (nI j < 0 ∨ 600 ≤ j) := fun q => q.elim (nI_pos (by omega)) (by omega)
      obtain ⟨i0, i1, i2, i3, i4⟩ := hi.2 j hj
      obtain ⟨r0, r1, r2, r3⟩ := hir j hj
      rw [if_neg hnn, if_pos hlt, in_ok hnn (by rw [pred_lt (by omega), q1, nI_leI (by omega) (by omega)]; omega), bd2_some, if_neg (show ¬ (1 : Int32) = 0 by decide), q1, nI_clamp (by omega)]
      simp only [if_neg ngj, i0, i1, i2, i3, r0, r1, r2, r3]
      by_cases w0 : b = 0
      · rw [if_pos w0, if_pos w0]; exact ⟨_, rfl, rfl⟩
      rw [if_neg w0, if_neg w0]
      by_cases w1 : b = 1
      · rw [if_pos w1, if_pos w1]; exact ⟨_, rfl, rfl⟩
      rw [if_neg w1, if_neg w1]
      by_cases w2 : b = 2
      · rw [if_pos w2, if_pos w2]; exact ⟨_, rfl, rfl⟩
      rw [if_neg w2, if_neg w2]
      by_cases w3 : b = 3
      · rw [if_pos w3, if_pos w3]; exact ⟨_, rfl, rfl⟩
      rw [if_neg w3, if_neg w3]; exact ⟨_, rfl, rfl⟩
  obtain ⟨x, e1, e2⟩ := key
  exact ⟨x, Mc, Mr, e1, e2, h⟩
end
