section
variable {q92 : Int32 → Int32 → Int32 → Int32 → Int32 → Int32 → Int32 → Mm → Option (Int32 × Mm)} {x1 x2 x3 x4 x5 x6 x7 x8 x9 x10 : Int32}
theorem l_139 {n : Nat} (hn : n ≤ 1200) : ∀ (j i g : Nat) (M : Mm), i + j = n → j < g → M.1 31 2 = nI n → (∀ q, q < i → M.1 48 q = M.1 32 q) → ∃ N, rX7_shrink_b139 q92 g x1 x2 x3 x4 x5 x6 x7 x8 x9 x10 (nI i) M = rX7_shrink_b183 q92 FU x1 x2 x3 x4 x5 x6 x7 x9 x10 x8 (st N 31 2 (nI n - x9)) ∧ (∀ c, c ≠ 48 → N.1 c = M.1 c) ∧ N.2 = M.2 ∧ ∀ q, q < n → N.1 48 q = M.1 32 q := by
  intro j
  induction j with
  | zero =>
    intro i g M hi hg h2 hq
    obtain ⟨g, rfl⟩ : ∃ g', g = g' + 1 := ⟨g - 1, by omega⟩
    refine ⟨M, ?_, fun _ _ => rfl, rfl, fun q hqn => hq q (by omega)⟩
    show rX7_shrink_b139_s q92 (rX7_shrink_b139 q92 g) x1 x2 x3 x4 x5 x6 x7 x8 x9 x10 (nI i) M = _
    unfold rX7_shrink_b139_s
    rw [h2, if_pos (nI_le (by omega) (by omega)), lt_e]
  | succ j ih =>
    intro i g M hi hg h2 hq
    obtain ⟨g, rfl⟩ : ∃ g', g = g' + 1 := ⟨g - 1, by omega⟩
    obtain ⟨N, e1, e2, e3, e4⟩ := ih (i + 1) g (st M 48 i (M.1 32 i)) (by omega) (by omega) (by rw [st_ne (by decide)]; exact h2) (fun q hqi => by
      rw [st_eq, st_ne (by decide)]
      by_cases w : q = i
      · rw [w, upd_s]
      · rw [upd_n w]; exact hq q (by omega))
    refine ⟨N, ?_, fun c hc => by rw [e2 c hc, st_ne hc], e3, fun q hqn => by rw [e4 q hqn, st_ne (by decide)]⟩
    show rX7_shrink_b139_s q92 (rX7_shrink_b139 q92 g) x1 x2 x3 x4 x5 x6 x7 x8 x9 x10 (nI i) M = _
    unfold rX7_shrink_b139_s
    rw [h2, if_neg (nI_ge (by omega) (by omega)), if_neg (nocl (by omega) (by decide)), if_neg (nocl (by omega) (by decide)), nI_clamp (by omega), lt_e, lt_e, nI_1, e1]
def k183 (q92 : Int32 → Int32 → Int32 → Int32 → Int32 → Int32 → Int32 → Mm → Option (Int32 × Mm)) (x1 x2 x3 x4 x5 x6 x7 x9 x10 : Int32) (M : Mm) : Option (Int32 × Mm) := Option.bind (rX7_reads x1 x2 x3 M) fun M28 => if (M28.1 31 8) = x4 then (lt_ (x6 + x9) fun y37 => rX7_shrink_b279 q92 x1 x2 x3 x4 x5 y37 x7 M28) else (lt_ (st M28 31 2 x10) fun M30 => rX7_shrink_b250 q92 FU x1 x2 x3 x4 x5 x6 x7 0 M30)
theorem l_183 {n L : Nat} (hn : n + L ≤ 1200) : ∀ (j i g : Nat) (M : Mm), i + j = n → j < g → M.1 31 2 = nI n → ∃ N, rX7_shrink_b183 q92 g x1 x2 x3 x4 x5 x6 x7 (nI L) x10 (nI i) M = k183 q92 x1 x2 x3 x4 x5 x6 x7 (nI L) x10 N ∧ (∀ c, c ≠ 32 → N.1 c = M.1 c) ∧ N.2 = M.2 ∧ (∀ q, q < i → N.1 32 q = M.1 32 q) ∧ ∀ q, i ≤ q → q < n → N.1 32 q = M.1 48 (q + L) := by
  intro j
  induction j with
  | zero =>
    intro i g M hi hg h2
    obtain ⟨g, rfl⟩ : ∃ g', g = g' + 1 := ⟨g - 1, by omega⟩
    refine ⟨M, ?_, fun _ _ => rfl, rfl, fun _ _ => rfl, fun q h3 h4 => by omega⟩
    show rX7_shrink_b183_s q92 (rX7_shrink_b183 q92 g) x1 x2 x3 x4 x5 x6 x7 (nI L) x10 (nI i) M = _
    unfold rX7_shrink_b183_s
    rw [h2, if_pos (nI_le (by omega) (by omega))]
    rfl
  | succ j ih =>
    intro i g M hi hg h2
    obtain ⟨g, rfl⟩ : ∃ g', g = g' + 1 := ⟨g - 1, by omega⟩
    obtain ⟨N, e1, e2, e3, e4, e5⟩ := ih (i + 1) g (st M 32 i (M.1 48 (i + L))) (by omega) (by omega) (by rw [st_ne (by decide)]; exact h2)
    refine ⟨N, ?_, fun c hc => by rw [e2 c hc, st_ne hc], e3, fun q hqn => by rw [e4 q (by omega), st_eq, upd_n (by omega)], fun q h3 h4 => ?_⟩
    · show rX7_shrink_b183_s q92 (rX7_shrink_b183 q92 g) x1 x2 x3 x4 x5 x6 x7 (nI L) x10 (nI i) M = _
      unfold rX7_shrink_b183_s
      rw [h2, if_neg (nI_ge (by omega) (by omega)), nI_add, if_neg (nocl (by omega) (by decide)), if_neg (nocl (by omega) (by decide)), nI_clamp (n := i) (by omega), nI_clamp (n := i + L) (by omega), lt_e, lt_e, nI_1, e1]
    · by_cases w : q = i
      · rw [w, e4 i (by omega), st_eq, upd_s]
      · rw [e5 q (by omega) h4, st_ne (by decide)]
theorem l_250 {n : Nat} (hn : n ≤ 1200) : ∀ (j i g : Nat) (M : Mm), i + j = n → j < g → M.1 31 2 = nI n → ∃ N, rX7_shrink_b250 q92 g x1 x2 x3 x4 x5 x6 x7 (nI i) M = rX7_shrink_b279 q92 x1 x2 x3 x4 x5 x6 x7 N ∧ (∀ c, c ≠ 32 → N.1 c = M.1 c) ∧ N.2 = M.2 ∧ (∀ q, q < i → N.1 32 q = M.1 32 q) ∧ ∀ q, i ≤ q → q < n → N.1 32 q = M.1 48 q := by
  intro j
  induction j with
  | zero =>
    intro i g M hi hg h2
    obtain ⟨g, rfl⟩ : ∃ g', g = g' + 1 := ⟨g - 1, by omega⟩
    refine ⟨M, ?_, fun _ _ => rfl, rfl, fun _ _ => rfl, fun q h3 h4 => by omega⟩
    show rX7_shrink_b250_s q92 (rX7_shrink_b250 q92 g) x1 x2 x3 x4 x5 x6 x7 (nI i) M = _
    unfold rX7_shrink_b250_s
    rw [h2, if_pos (nI_le (by omega) (by omega))]
  | succ j ih =>
    intro i g M hi hg h2
    obtain ⟨g, rfl⟩ : ∃ g', g = g' + 1 := ⟨g - 1, by omega⟩
    obtain ⟨N, e1, e2, e3, e4, e5⟩ := ih (i + 1) g (st M 32 i (M.1 48 i)) (by omega) (by omega) (by rw [st_ne (by decide)]; exact h2)
    refine ⟨N, ?_, fun c hc => by rw [e2 c hc, st_ne hc], e3, fun q hqn => by rw [e4 q (by omega), st_eq, upd_n (by omega)], fun q h3 h4 => ?_⟩
    · show rX7_shrink_b250_s q92 (rX7_shrink_b250 q92 g) x1 x2 x3 x4 x5 x6 x7 (nI i) M = _
      unfold rX7_shrink_b250_s
      rw [h2, if_neg (nI_ge (by omega) (by omega)), if_neg (nocl (by omega) (by decide)), if_neg (nocl (by omega) (by decide)), nI_clamp (n := i) (by omega), lt_e, lt_e, nI_1, e1]
    · by_cases w : q = i
      · rw [w, e4 i (by omega), st_eq, upd_s]
      · rw [e5 q (by omega) h4, st_ne (by decide)]
theorem l_46 {m : Nat} (hm : m < 600) : ∀ (j i g : Nat) (M : Mm), i + j = m → j < g → (∀ q, q < i → M.1 49 q = M.1 44 q) → ∃ N, rX7_shrink_b46 g x1 x2 x3 x4 (nI m) (nI i) M = rX7_shrink_b92 FU x1 x2 x3 x4 (nI m) 0 0 (st N 49 m (M.1 36 0)) ∧ (∀ c, c ≠ 49 → N.1 c = M.1 c) ∧ N.2 = M.2 ∧ ∀ q, q < m → N.1 49 q = M.1 44 q := by
  intro j
  induction j with
  | zero =>
    intro i g M hi hg hq
    obtain ⟨g, rfl⟩ : ∃ g', g = g' + 1 := ⟨g - 1, by omega⟩
    refine ⟨M, ?_, fun _ _ => rfl, rfl, fun q hqn => hq q (by omega)⟩
    show rX7_shrink_b46_s (rX7_shrink_b46 g) x1 x2 x3 x4 (nI m) (nI i) M = _
    unfold rX7_shrink_b46_s
    have c0 : (0 : Int32).toNatClampNeg = 0 := by decide
    rw [if_pos (nI_le (by omega) (by omega)), c0, if_neg (by decide), if_neg (nocl (by omega) (by decide)), nI_clamp (by omega), lt_e]
  | succ j ih =>
    intro i g M hi hg hq
    obtain ⟨g, rfl⟩ : ∃ g', g = g' + 1 := ⟨g - 1, by omega⟩
    obtain ⟨N, e1, e2, e3, e4⟩ := ih (i + 1) g (st M 49 i (M.1 44 i)) (by omega) (by omega) (fun q hqi => by
      rw [st_eq, st_ne (by decide)]
      by_cases w : q = i
      · rw [w, upd_s]
      · rw [upd_n w]; exact hq q (by omega))
    refine ⟨N, ?_, fun c hc => by rw [e2 c hc, st_ne hc], e3, fun q hqn => by rw [e4 q hqn, st_ne (by decide)]⟩
    show rX7_shrink_b46_s (rX7_shrink_b46 g) x1 x2 x3 x4 (nI m) (nI i) M = _
    unfold rX7_shrink_b46_s
    rw [if_neg (nI_ge (by omega) (by omega)), if_neg (nocl (by omega) (by decide)), if_neg (nocl (by omega) (by decide)), nI_clamp (by omega), lt_e, lt_e, nI_1, e1, st_ne (show 36 ≠ 49 by decide)]
end
/-- the items lie one behind the other -/
def Ch (rc : Rc) : Prop := ∀ k, k < rc.length → (rc.getD k (0, 0, 0, 0, 0)).2.1 = 2 + sl (rc.take k)
theorem sl_take : ∀ (rc : Rc) (k : Nat), k < rc.length → sl (rc.take (k + 1)) = sl (rc.take k) + (rc.getD k (0, 0, 0, 0, 0)).2.2.2.2
  | [], k, h => by simp at h
  | x :: xs, 0, h => by simp [sl]
  | x :: xs, k + 1, h => by
    have := sl_take xs k (by simpa using h)
    simp only [List.take_succ_cons, sl, List.getD_cons_succ] at this ⊢
    omega
theorem Ch.app {rc : Rc} {x : Nat × Nat × Nat × Nat × Nat} (h : Ch rc) (hx : x.2.1 = 2 + sl rc) : Ch (rc ++ [x]) := by
  intro k hk
  rw [List.length_append, List.length_singleton] at hk
  by_cases q : k < rc.length
  · rw [getD_app5, if_pos q, List.take_append_of_le_length (by omega)]
    exact h k q
  · have q2 : k = rc.length := by omega
    rw [getD_app5, if_neg q, if_pos q2, hx, q2, List.take_append_of_le_length (Nat.le_refl _), List.take_length]
theorem aLoop_ch {mo sp dp fr e oa : Nat} {t : Nat → Nat} {nest : Nat → Nat → Nat → Gs → Pr} (hN : OkN mo sp nest) (hdp : dp ≤ 8) : ∀ (f p : Nat) (ends : List Nat) (g : Gs) (rc : Rc), OkG mo sp g g → p ≤ e → p = 2 + sl rc → Ch rc → Ch (aLoop nest t mo sp dp fr e oa 0 f p ends g rc).2.2.2.2 ∧ 2 + sl (aLoop nest t mo sp dp fr e oa 0 f p ends g rc).2.2.2.2 ≤ e
  | 0, p, ends, g, rc, hg, hp, hl, hC => ⟨hC, by show 2 + sl rc ≤ e; omega⟩
  | f + 1, p, ends, g, rc, hg, hp, hl, hC => by
    have base : Ch rc ∧ 2 + sl rc ≤ e := ⟨hC, by omega⟩
    rw [aLoop]
    split
    · exact base
    split
    · split
      · exact base
      split
      · exact base
      split
      · exact base
      · exact base
    obtain ⟨i1, i2, i3⟩ := ok_item (t := t) (e := e) (oa := oa) (dep := 0) (p := p) (ends := ends) hN hg hdp
    split
    · rename_i h0
      obtain ⟨j1, j2, j3⟩ := i3 h0
      refine aLoop_ch hN hdp f _ _ _ _ i1.own j2 ?_ ?_
      · unfold aRec
        rw [if_pos rfl, sl_app]
        show _ = 2 + (sl rc + (_ - p))
        omega
      · unfold aRec
        rw [if_pos rfl]
        exact hC.app hl
    · exact base
theorem aRead_ch {t : Nat → Nat} {n mo sp dp : Nat} (h3 : dp ≤ 8) (h0 : (aPack t mo sp dp 10 0 n 0 ([], 0, 0, 0) []).2.2.2.2.length ≠ 0) : Ch (aPack t mo sp dp 10 0 n 0 ([], 0, 0, 0) []).2.2.2.2 ∧ 2 + sl (aPack t mo sp dp 10 0 n 0 ([], 0, 0, 0) []).2.2.2.2 ≤ n := by
  have hg0 : OkG mo sp ([], 0, 0, 0) ([], 0, 0, 0) := by
    refine ⟨Nat.le_refl _, Nat.zero_le _, Nat.le_refl _, Nat.zero_le _, by decide, by decide⟩
  rw [aPack_mkr] at h0 ⊢
  by_cases c1 : sp < 0 + 4
  · rw [if_pos c1] at h0; exact absurd rfl h0
  rw [if_neg c1] at h0 ⊢
  by_cases c2 : (mkr t 0 n).1 ≠ 0
  · rw [if_pos c2] at h0; exact absurd rfl h0
  rw [if_neg c2] at h0 ⊢
  have c2' : (mkr t 0 n).1 = 0 := Classical.not_not.mp c2
  obtain ⟨m1, m2⟩ := mkr_0 c2'
  exact aLoop_ch (t := t) (fr := 0) (e := n) (oa := ([] : List Nat).length) (ok_nest (t := t) h3 9) h3 1300 (0 + 2) [] (aG1 0 ([], 0, 0, 0)) [] (ok_g1 hg0 (by decide) c1) m1 rfl (fun k hk => absurd hk (by simp))
