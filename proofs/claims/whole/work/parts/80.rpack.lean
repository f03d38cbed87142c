def RG (M : Mm) (g : Gs) (fc : Nat) (fp : Int32) : Prop := M.1 31 4 = nI g.1.length ∧ (∀ i, i < g.1.length → M.1 33 i = nI (g.1.getD i 0)) ∧ M.1 31 10 = nI g.2.1 ∧ M.1 31 11 = nI g.2.2.1 ∧ M.1 31 12 = nI g.2.2.2 ∧ M.1 31 8 = nI fc ∧ M.1 31 9 = fp
def RB (t : Nat → Nat) (n mo sp dp : Nat) (M : Mm) : Prop := n ≤ 1200 ∧ (∀ i, i < n → t i < 256) ∧ mo ≤ 4000 ∧ sp ≤ 20000 ∧ dp ≤ 8 ∧ (∀ i, i < n → M.1 32 i = nI (t i)) ∧ M.1 31 5 = nI mo ∧ M.1 31 6 = nI sp ∧ M.1 31 7 = nI dp
def RPk (d fr e oa : Nat) (ends : List Nat) (p : Nat) (M : Mm) : Prop := M.1 34 d = nI fr ∧ M.1 35 d = nI e ∧ M.1 36 d = nI p ∧ M.1 37 d = nI oa ∧ M.1 38 d = nI ends.length ∧ ∀ k, k < ends.length → M.1 39 (600 * d + k) = nI (ends.getD k 0)
def IR (M : Mm) (rc : Rc) : Prop := ∀ k, k < rc.length → M.1 43 k = nI (rc.getD k (0, 0, 0, 0, 0)).1 ∧ M.1 44 k = nI (rc.getD k (0, 0, 0, 0, 0)).2.1 ∧ M.1 45 k = nI (rc.getD k (0, 0, 0, 0, 0)).2.2.1 ∧ M.1 46 k = nI (rc.getD k (0, 0, 0, 0, 0)).2.2.2.1
/-- what a PACK at depth d leaves as it was, in the reference -/
def Fk (d : Nat) (A M : Mm) : Prop := (∀ c, (c < 31 ∨ c = 32 ∨ 47 < c) → M.1 c = A.1 c) ∧ (∀ c j, (34 ≤ c ∧ c ≤ 38 ∨ 40 ≤ c ∧ c ≤ 42) → j < d → M.1 c j = A.1 c j) ∧ (∀ k, k < 600 * d → M.1 39 k = A.1 39 k) ∧ (0 < d → ∀ c, 43 ≤ c → c ≤ 46 → M.1 c = A.1 c) ∧ (∀ j, (j = 2 ∨ j = 5 ∨ j = 6 ∨ j = 7 ∨ j = 13) → M.1 31 j = A.1 31 j) ∧ M.2 = A.2
theorem Fk.rf {d : Nat} {A : Mm} : Fk d A A := ⟨fun _ _ => rfl, fun _ _ _ _ => rfl, fun _ _ => rfl, fun _ _ _ _ => rfl, fun _ _ => rfl, rfl⟩
theorem Fk.tr {d : Nat} {A B C : Mm} (h : Fk d A B) (k : Fk d B C) : Fk d A C := ⟨fun c a => (k.1 c a).trans (h.1 c a), fun c j a b => (k.2.1 c j a b).trans (h.2.1 c j a b), fun j hj => (k.2.2.1 j hj).trans (h.2.2.1 j hj), fun hd c a b => (k.2.2.2.1 hd c a b).trans (h.2.2.2.1 hd c a b), fun j hj => (k.2.2.2.2.1 j hj).trans (h.2.2.2.2.1 j hj), k.2.2.2.2.2.trans h.2.2.2.2.2⟩
theorem Fk.up {d d' : Nat} {A B : Mm} (h : Fk d A B) (hd : d' ≤ d) (h0 : 0 < d) : Fk d' A B := ⟨h.1, fun c j a b => h.2.1 c j a (by omega), fun k hk => h.2.2.1 k (by omega), fun _ => h.2.2.2.1 h0, h.2.2.2.2⟩
theorem RB.mv {t : Nat → Nat} {n mo sp dp d : Nat} {A M : Mm} (B : RB t n mo sp dp A) (h : Fk d A M) : RB t n mo sp dp M := by
  obtain ⟨b1, b2, b3, b4, b5, b6, b7, b8, b9⟩ := B
  exact ⟨b1, b2, b3, b4, b5, fun i hi => by rw [h.1 32 (by decide)]; exact b6 i hi, by rw [h.2.2.2.2.1 5 (by decide)]; exact b7, by rw [h.2.2.2.2.1 6 (by decide)]; exact b8, by rw [h.2.2.2.2.1 7 (by decide)]; exact b9⟩
/-- sum of the items' lengths -/
def sl : Rc → Nat
  | [] => 0
  | x :: xs => x.2.2.2.2 + sl xs
theorem sl_app (x : Nat × Nat × Nat × Nat × Nat) : ∀ rc : Rc, sl (rc ++ [x]) = sl rc + x.2.2.2.2
  | [] => by simp [sl]
  | y :: ys => by simp only [List.cons_append, sl, sl_app x ys]; omega
/-- the end of an item -/
theorem r_ends {t : Nat → Nat} {n d fr e oa p p' ol ol0 co co0 : Nat} {ends : List Nat} {rc : Rc} {M : Mm} (hd : d ≤ 8) (hl : ends.length < 600) (hP : RPk d fr e oa ends p M) (h4 : M.1 31 4 = nI ol) (h10 : M.1 31 10 = nI co) (hoa : oa ≤ ol) (hn : n ≤ 1200) (hp : p < n) (h32 : ∀ i, i < n → M.1 32 i = nI (t i)) (h40 : d = 0 → M.1 40 0 = nI p ∧ M.1 41 0 = nI ol0 ∧ M.1 42 0 = nI co0 ∧ ol0 ≤ ol ∧ co0 ≤ co ∧ IR M rc ∧ rc.length = ends.length) :
    ∃ M', rX7_ends (nI d) (nI p') M = some M' ∧ RPk d fr e oa (ends ++ [ol - oa]) p' M' ∧ (d = 0 → IR M' (rc ++ [(t p, p, ol - ol0, co - co0, p' - p)])) ∧ (∀ c, (c < 36 ∨ c = 37 ∨ (40 ≤ c ∧ c ≤ 42) ∨ 46 < c) → M'.1 c = M.1 c) ∧ Fk d M M' := by
  obtain ⟨p1, p2, p3, p4, p5, p6⟩ := hP
  have ng : ¬ (nI d < 0 ∨ 10 ≤ d) := fun q => q.elim (nI_pos (by omega)) (by omega)
  have ng9 : ¬ (nI (600 * d + ends.length) < 0 ∨ 6000 ≤ 600 * d + ends.length) := fun q => q.elim (nI_pos (by omega)) (by omega)
  have hu : rX7_ends (nI d) (nI p') M = rX7_ends (nI d) (nI p') M := rfl
  conv at hu =>
    rhs
    unfold rX7_ends
  rw [nI_clamp (n := d) (by omega), if_neg ng, p5, lt_e, if_neg ng, k_600, nI_mul, nI_add, nI_clamp (n := 600 * d + ends.length) (by omega), if_neg ng9, h4, p4, pk_sub hoa, lt_e] at hu
  -- the state behind the records: M9; then two writes
  have fin : ∀ M9 : Mm, (∀ c, (c < 39 ∨ (40 ≤ c ∧ c ≤ 42) ∨ 46 < c) → M9.1 c = M.1 c) → M9.1 39 = upd (M.1 39) (600 * d + ends.length) (nI (ol - oa)) → M9.2 = M.2 → (0 < d → ∀ c, 43 ≤ c → c ≤ 46 → M9.1 c = M.1 c) → (d = 0 → IR M9 (rc ++ [(t p, p, ol - ol0, co - co0, p' - p)])) → rX7_ends (nI d) (nI p') M = rX7_ends_b97 (nI d) (nI p') M9 → ∃ M', rX7_ends (nI d) (nI p') M = some M' ∧ RPk d fr e oa (ends ++ [ol - oa]) p' M' ∧ (d = 0 → IR M' (rc ++ [(t p, p, ol - ol0, co - co0, p' - p)])) ∧ (∀ c, (c < 36 ∨ c = 37 ∨ (40 ≤ c ∧ c ≤ 42) ∨ 46 < c) → M'.1 c = M.1 c) ∧ Fk d M M' := by
    intro M9 hc h39 h2 hrec hir he
    have h38 : M9.1 38 d = nI ends.length := by rw [hc 38 (by omega)]; exact p5
    refine ⟨st (st M9 38 d (nI (ends.length + 1))) 36 d (nI p'), ?_, ?_, ?_, ?_, ?_⟩
    · rw [he]
      unfold rX7_ends_b97
      rw [nI_clamp (n := d) (by omega), if_neg ng, if_neg ng, lt_e, if_neg ng, lt_e, h38, k_1, nI_add]
    · refine ⟨?_, ?_, ?_, ?_, ?_, fun k hk => ?_⟩
      · rw [st_ne (by decide), st_ne (by decide), hc 34 (by omega)]; exact p1
      · rw [st_ne (by decide), st_ne (by decide), hc 35 (by omega)]; exact p2
      · rw [st_eq, upd_s]
      · rw [st_ne (by decide), st_ne (by decide), hc 37 (by omega)]; exact p4
      · rw [st_ne (by decide), st_eq, upd_s]; simp
      · simp only [List.length_append, List.length_cons, List.length_nil] at hk
        rw [st_ne (by decide), st_ne (by decide), h39, getD_app]
        by_cases h7 : k < ends.length
        · rw [if_pos h7, upd_n (by omega)]; exact p6 k h7
        · rw [if_neg h7, if_pos (by omega), show k = ends.length by omega, upd_s]
    · intro h0
      unfold IR
      rw [st_ne (show (43 : Nat) ≠ 36 by decide), st_ne (show (43 : Nat) ≠ 38 by decide), st_ne (show (44 : Nat) ≠ 36 by decide), st_ne (show (44 : Nat) ≠ 38 by decide), st_ne (show (45 : Nat) ≠ 36 by decide), st_ne (show (45 : Nat) ≠ 38 by decide), st_ne (show (46 : Nat) ≠ 36 by decide), st_ne (show (46 : Nat) ≠ 38 by decide)]
      exact hir h0
    · intro c hcc
      rw [st_ne (by omega), st_ne (by omega), hc c (by omega)]
    · refine ⟨fun c hcc => ?_, fun c j a b => ?_, fun k hk => ?_, fun h0 c a b => ?_, fun j hj => ?_, h2⟩
      · rw [st_ne (by omega), st_ne (by omega), hc c (by omega)]
      · by_cases h36 : c = 36
        · rw [h36, st_eq, upd_n (by omega), st_ne (by decide), hc 36 (by omega)]
        · rw [st_ne h36]
          by_cases h38' : c = 38
          · rw [h38', st_eq, upd_n (by omega), hc 38 (by omega)]
          · rw [st_ne h38', hc c (by omega)]
      · rw [st_ne (by decide), st_ne (by decide), h39, upd_n (by omega)]
      · rw [st_ne (by omega), st_ne (by omega)]; exact hrec h0 c a b
      · rw [st_ne (by decide), st_ne (by decide), hc 31 (by omega)]
  obtain ⟨M5, hM5⟩ : ∃ M5, M5 = st M 39 (600 * d + ends.length) (nI (ol - oa)) := ⟨_, rfl⟩
  rw [← hM5] at hu
  have h5 : ∀ c, c ≠ 39 → M5.1 c = M.1 c := fun c hc => by rw [hM5, st_ne hc]
  by_cases h0 : d = 0
  · subst h0
    obtain ⟨q1, q2, q3, q4, q5, q6, q7⟩ := h40 rfl
    have n0 : ¬ ((0 : Int32) < 0 ∨ 10 ≤ (0 : Int32).toNatClampNeg) := by decide
    have np : ¬ (nI p < 0 ∨ 1200 ≤ p) := fun q => q.elim (nI_pos (by omega)) (by omega)
    have nl : ¬ (nI ends.length < 0 ∨ 600 ≤ ends.length) := fun q => q.elim (nI_pos (by omega)) (by omega)
    have c0 : (0 : Int32).toNatClampNeg = 0 := by decide
    have tp := h32 p hp
    rw [if_pos (show nI 0 = 0 from rfl), if_neg n0, c0, h5 40 (by decide), h5 32 (by decide), q1, nI_clamp (n := p) (by omega), if_neg np, nI_clamp (n := ends.length) (by omega), if_neg nl, tp, lt_e, if_neg (show ¬ ((0 : Int32) < 0 ∨ 10 ≤ 0) by decide), if_neg nl, st_ne (show (40 : Nat) ≠ 43 by decide), h5 40 (by decide), q1, lt_e, if_neg (show ¬ ((0 : Int32) < 0 ∨ 10 ≤ 0) by decide), if_neg nl, lt_e, if_neg (show ¬ ((0 : Int32) < 0 ∨ 10 ≤ 0) by decide), if_neg nl, lt_e] at hu
    have e31 : (st (st M5 43 ends.length (nI (t p))) 44 ends.length (nI p)).1 31 4 = nI ol := by rw [st_ne (by decide), st_ne (by decide), h5 31 (by decide)]; exact h4
    have e41 : (st (st M5 43 ends.length (nI (t p))) 44 ends.length (nI p)).1 41 0 = nI ol0 := by rw [st_ne (by decide), st_ne (by decide), h5 41 (by decide)]; exact q2
    rw [e31, e41, pk_sub q4] at hu
    have e10 : (st (st (st M5 43 ends.length (nI (t p))) 44 ends.length (nI p)) 45 ends.length (nI (ol - ol0))).1 31 10 = nI co := by rw [st_ne (by decide), st_ne (by decide), st_ne (by decide), h5 31 (by decide)]; exact h10
    have e42 : (st (st (st M5 43 ends.length (nI (t p))) 44 ends.length (nI p)) 45 ends.length (nI (ol - ol0))).1 42 0 = nI co0 := by rw [st_ne (by decide), st_ne (by decide), st_ne (by decide), h5 42 (by decide)]; exact q3
    rw [e10, e42, pk_sub q5] at hu
    refine fin _ (fun c hc => ?_) ?_ (by rw [hM5]; rfl) (fun h => absurd h (by decide)) (fun _ => ?_) hu
    · rw [st_ne (by omega), st_ne (by omega), st_ne (by omega), st_ne (by omega), h5 c (by omega)]
    · rw [st_ne (by decide), st_ne (by decide), st_ne (by decide), st_ne (by decide), hM5, st_eq]
    · intro k hk
      simp only [List.length_append, List.length_cons, List.length_nil] at hk
      rw [getD_app5]
      simp only [st_eq, st_ne (show (43 : Nat) ≠ 44 by decide), st_ne (show (43 : Nat) ≠ 45 by decide), st_ne (show (43 : Nat) ≠ 46 by decide), st_ne (show (44 : Nat) ≠ 45 by decide), st_ne (show (44 : Nat) ≠ 46 by decide), st_ne (show (45 : Nat) ≠ 46 by decide), st_ne (show (44 : Nat) ≠ 43 by decide), st_ne (show (45 : Nat) ≠ 43 by decide), st_ne (show (45 : Nat) ≠ 44 by decide), st_ne (show (46 : Nat) ≠ 43 by decide), st_ne (show (46 : Nat) ≠ 44 by decide), st_ne (show (46 : Nat) ≠ 45 by decide)]
      rw [h5 43 (by decide), h5 44 (by decide), h5 45 (by decide), h5 46 (by decide), ← q7]
      by_cases h7 : k < rc.length
      · rw [if_pos h7]
        simp only [upd_n (show k ≠ rc.length by omega)]
        exact q6 k h7
      · rw [if_neg h7, if_pos (by omega), show k = rc.length by omega]
        simp only [upd_s]
        exact ⟨trivial, trivial, trivial, trivial⟩
  · rw [if_neg (nI_ne0 (by omega) (by omega))] at hu
    refine fin M5 (fun c hc => h5 c (by omega)) (by rw [hM5, st_eq]) (by rw [hM5]; rfl) (fun _ c a b => h5 c (by omega)) (fun h => absurd h h0) hu
