theorem Bc.mv {t : Nat → Nat} {n mo sp dp d fi : Nat} {A M : Mm} (B : Bc t n mo sp dp A) (h : Fm d fi A M) : Bc t n mo sp dp M := by
  obtain ⟨b1, b2, b3, b4, b5, b6, b7, b8, b9, b10⟩ := B
  have c1 := h.1 1 (by decide) (by decide) (by decide) (by decide) (by decide) (by omega)
  have c2 := h.1 2 (by decide) (by decide) (by decide) (by decide) (by decide) (by omega)
  exact ⟨b1, b2, b3, b4, b5, by rw [c1]; exact b6, fun i hi => by rw [c2]; exact b7 i hi, by rw [h.2.2.2.1 6 (by decide)]; exact b8, by rw [h.2.2.2.1 7 (by decide)]; exact b9, by rw [h.2.2.2.1 8 (by decide)]; exact b10⟩
section
variable {A M : Mm} {out : List Nat} {p co fc d fi : Nat} {fp : Int32}
theorem CI.fm (h : CI A M out p co fc fp) : Fm d fi A M := by
  refine ⟨fun c a b q e f g => h.1 c a b q (by omega), fun k _ => by rw [h.1 29 (by decide) (by decide) (by decide) (by decide)], fun _ c a b => h.1 c (by omega) (by omega) (by omega) (by omega), fun j hj => h.2.1 j (by omega) (by omega) (by omega) (by omega) (by omega) (by omega), h.2.2.1⟩
theorem CI.vw {dd bg : Nat} (h : CI A M out p co fc fp) (h13 : A.1 5 13 = nI dd) (h14 : A.1 5 14 = nI bg) : VW M p (out, co, dd, bg) fc fp := by
  obtain ⟨h1, h2, h3, h4, h5, h6, h7, h8, h9⟩ := h
  exact ⟨h4, h5, by rw [h2 13 (by decide) (by decide) (by decide) (by decide) (by decide) (by decide)]; exact h13, by rw [h2 14 (by decide) (by decide) (by decide) (by decide) (by decide) (by decide)]; exact h14, h6, h7, h8, h9⟩
theorem VW.ci {g : Gs} (h : VW M p g fc fp) : CI M M g.1 p g.2.1 fc fp := by
  obtain ⟨h1, h2, h3, h4, h5, h6, h7, h8⟩ := h
  exact ⟨fun _ _ _ _ _ => rfl, fun _ _ _ _ _ _ _ => rfl, rfl, h1, h2, h5, h6, h7, h8⟩
end
/-- checkOf -/
theorem lp_chk {t : Nat → Nat} {n : Nat} {M : Mm} (hn : n ≤ 1200) (hb : ∀ i, i < n → t i < 256) (h1 : M.1 1 1 = nI n) (h2 : ∀ i, i < n → M.1 2 i = nI (t i)) (fr : Nat) : ∀ (r fuel k : Nat), r < fuel → fr + k + r ≤ n → rX0_checkOf_b9 1 1200 1200 fuel (nI (fr + k + r)) (nI (sm t fr k)) (nI (fr + k)) M = some (nI (sm t fr (k + r) % 256), M) := by
  intro r
  induction r with
  | zero =>
    intro fuel k hf hk
    obtain ⟨f, rfl⟩ : ∃ f, fuel = f + 1 := ⟨fuel - 1, by omega⟩
    have := sm_le (t := t) (a := fr) k (fun i hi => hb _ (by omega))
    show rX0_checkOf_b9_s 1 1200 1200 (rX0_checkOf_b9 1 1200 1200 f) _ _ _ M = _
    unfold rX0_checkOf_b9_s
    rw [if_pos (by rw [nI_leI (by omega) (by omega)]; omega), show (255 : Int32) = nI 255 from rfl, pk_andN (k := 8) (by omega) (by decide)]
    rfl
  | succ r ih =>
    intro fuel k hf hk
    obtain ⟨f, rfl⟩ : ∃ f, fuel = f + 1 := ⟨fuel - 1, by omega⟩
    have e1 := ih f (k + 1) (by omega) (by omega)
    rw [show fr + (k + 1) + r = fr + k + (r + 1) by omega, show k + 1 + r = k + (r + 1) by omega, show fr + (k + 1) = fr + k + 1 by omega, sm] at e1
    have h2k := h2 (fr + k) (by omega)
    show rX0_checkOf_b9_s 1 1200 1200 (rX0_checkOf_b9 1 1200 1200 f) _ _ _ M = _
    unfold rX0_checkOf_b9_s
    rw [if_neg (by rw [nI_leI (by omega) (by omega)]; omega), h1, if_neg (by rw [nI_leI (by omega) (by omega)]; omega), nI_clamp (by omega), if_neg (fun q => q.elim (nI_pos (by omega)) (by omega)), lt_e, lt_e, show 1 + 1 = 2 from rfl, h2k, nI_add, k_1, nI_add]
    exact e1
theorem e_chk {t : Nat → Nat} {n : Nat} {M : Mm} (hn : n ≤ 1200) (hb : ∀ i, i < n → t i < 256) (h1 : M.1 1 1 = nI n) (h2 : ∀ i, i < n → M.1 2 i = nI (t i)) {fr q : Nat} (hq : fr ≤ q) (hqn : q ≤ n) : rX0_checkOf 1 1200 1200 (nI fr) (nI q) M = some (nI (sm t fr (q - fr) % 256), M) := by
  have e1 := lp_chk hn hb h1 h2 fr (q - fr) FU 0 (by unfold FU; omega) (by omega)
  rw [Nat.add_zero, Nat.zero_add, show fr + (q - fr) = q by omega] at e1
  unfold rX0_checkOf
  rw [lt_e, show (if (0 : Int32) < nI fr then nI fr else 0) = nI fr from z_max (by omega)]
  exact e1
def ResP (d : Nat) (M : Mm) (r : Pr) : Prop := (∃ p', (r.1 = 0 → p' = r.2.2.1) ∧ VW M p' r.2.2.2.1 r.1 r.2.1) ∧ (d = 0 → IV M r.2.2.2.2)
/-- the reader of a nested PACK does as it should -/
def NestOk (t : Nat → Nat) (n mo sp dp d : Nat) (rp : Int32 → Int32 → Int32 → Int32 → Mm → Option Mm) (nest : Nat → Nat → Nat → Gs → Pr) : Prop := ∀ (fr e fi p0 : Nat) (g : Gs) (A : Mm), Bc t n mo sp dp A → VW A p0 g 0 (-1) → fr ≤ e → e ≤ n → 2 * fi ≤ fr → OkG mo sp g g → d + 1 ≤ 8 → ∃ M', rp (nI fr) (nI e) (nI (d + 1)) (nI fi) A = some M' ∧ ResP (d + 1) M' (nest fr e (d + 1) g) ∧ Fm (d + 1) fi A M'
theorem getD_app5 {l : Rc} {b : Nat × Nat × Nat × Nat × Nat} {i : Nat} : (l ++ [b]).getD i (0, 0, 0, 0, 0) = if i < l.length then l.getD i (0, 0, 0, 0, 0) else if i = l.length then b else (0, 0, 0, 0, 0) := by
  rw [List.getD_eq_getElem?_getD, List.getD_eq_getElem?_getD, List.getElem?_append]
  by_cases h : i < l.length
  · simp [h]
  · simp only [h, if_false]
    by_cases h2 : i = l.length
    · subst h2; simp
    · rw [if_neg h2, List.getElem?_eq_none (by simp; omega)]; rfl
theorem e_iapp {M : Mm} {rc : Rc} (h : IV M rc) (hl : rc.length < 600) (a b c d e : Nat) : ∃ M', rX1_append (nI a) (nI b) (nI c) (nI d) (nI e) M = some M' ∧ IV M' (rc ++ [(a, b, c, d, e)]) ∧ (∀ x, (x < 9 ∨ 14 < x) → M'.1 x = M.1 x) ∧ M'.2 = M.2 := by
  obtain ⟨h5, hr⟩ := h
  refine ⟨st (st (st (st (st (st M 10 rc.length (nI a)) 11 rc.length (nI b)) 12 rc.length (nI c)) 13 rc.length (nI d)) 14 rc.length (nI e)) 9 5 (nI (rc.length + 1)), ?_, ⟨?_, ?_⟩, ?_, rfl⟩
  · unfold rX1_append
    have c1 : ¬ 600 ≤ rc.length := by omega
    have q1 : (st M 10 rc.length (nI a)).1 9 5 = nI rc.length := by rw [st_ne (by decide)]; exact h5
    have q2 : (st (st M 10 rc.length (nI a)) 11 rc.length (nI b)).1 9 5 = nI rc.length := by rw [st_ne (by decide)]; exact q1
    have q3 : (st (st (st M 10 rc.length (nI a)) 11 rc.length (nI b)) 12 rc.length (nI c)).1 9 5 = nI rc.length := by rw [st_ne (by decide)]; exact q2
    have q4 : (st (st (st (st M 10 rc.length (nI a)) 11 rc.length (nI b)) 12 rc.length (nI c)) 13 rc.length (nI d)).1 9 5 = nI rc.length := by rw [st_ne (by decide)]; exact q3
    have q5 : (st (st (st (st (st M 10 rc.length (nI a)) 11 rc.length (nI b)) 12 rc.length (nI c)) 13 rc.length (nI d)) 14 rc.length (nI e)).1 9 5 = nI rc.length := by rw [st_ne (by decide)]; exact q4
    simp (disch := omega) only [lt_e, bd2_some, Option.bind_some, k_0, k_1, k_2, k_3, k_4, k_5, k_6, k_7, k_8, k_9, k_10, k_11, k_12, k_13, k_15, k_20, k_60, k_75, k_80, k_127, k_128, k_255, k_256, k_600, k_1200, k_4000, k_20000, nI_leI, nI_ltI, nI_eq, nI_m1, Nat.not_lt_zero, Nat.zero_le, nI_add, pk_sub, nI_mul, nI_clamp, z_0, z_1, if_true, if_false, not_true_eq_false, not_false_eq_true, or_false, false_or, or_self, true_or, or_true, h5, c1, q1, q2, q3, q4, q5]
  · rw [st_eq, upd_s]; simp
  · intro k hk
    simp only [List.length_append, List.length_cons, List.length_nil] at hk
    rw [getD_app5]
    simp only [st_ne (show (10 : Nat) ≠ 9 by decide), st_ne (show (11 : Nat) ≠ 9 by decide), st_ne (show (12 : Nat) ≠ 9 by decide), st_ne (show (13 : Nat) ≠ 9 by decide), st_ne (show (14 : Nat) ≠ 9 by decide), st_ne (show (10 : Nat) ≠ 11 by decide), st_ne (show (10 : Nat) ≠ 12 by decide), st_ne (show (10 : Nat) ≠ 13 by decide), st_ne (show (10 : Nat) ≠ 14 by decide), st_ne (show (11 : Nat) ≠ 12 by decide), st_ne (show (11 : Nat) ≠ 13 by decide), st_ne (show (11 : Nat) ≠ 14 by decide), st_ne (show (12 : Nat) ≠ 13 by decide), st_ne (show (12 : Nat) ≠ 14 by decide), st_ne (show (13 : Nat) ≠ 14 by decide), st_eq, st_ne (show (11 : Nat) ≠ 10 by decide), st_ne (show (12 : Nat) ≠ 10 by decide), st_ne (show (13 : Nat) ≠ 10 by decide), st_ne (show (14 : Nat) ≠ 10 by decide), st_ne (show (12 : Nat) ≠ 11 by decide), st_ne (show (13 : Nat) ≠ 11 by decide), st_ne (show (14 : Nat) ≠ 11 by decide), st_ne (show (13 : Nat) ≠ 12 by decide), st_ne (show (14 : Nat) ≠ 12 by decide), st_ne (show (14 : Nat) ≠ 13 by decide)]
    by_cases h2 : k < rc.length
    · rw [if_pos h2]
      simp only [upd_n (show k ≠ rc.length by omega)]
      exact hr k h2
    · rw [if_neg h2, if_pos (by omega), show k = rc.length by omega]
      simp only [upd_s]
      exact ⟨trivial, trivial, trivial, trivial, trivial⟩
  · intro x hx
    rw [st_ne (by omega), st_ne (by omega), st_ne (by omega), st_ne (by omega), st_ne (by omega), st_ne (by omega)]
section
variable {t : Nat → Nat} {n mo sp dp : Nat} {d fr e oa fi : Nat}
/-- behind an item that was read: the ends, the items -/
theorem e_fin {rp : Int32 → Int32 → Int32 → Int32 → Mm → Option Mm} {M : Mm} {ends : List Nat} {p p' k : Nat} {g g' : Gs} {rc : Rc} (hd : d ≤ 8) (hP : CPk d fr e oa fi ends M) (hV : VW M p' g' 0 (-1)) (hI : d = 0 → IV M rc ∧ rc.length < 600) (h6 : fi + ends.length < 600) (hoa : oa ≤ g'.1.length) (hgl : g.1.length ≤ g'.1.length) (hgc : g.2.1 ≤ g'.2.1) (hpp : p ≤ p') (hbo : g'.1.length ≤ 4000) (hbc : g'.2.1 ≤ 20000) (hbp : p' ≤ 1200) :
    ∃ M', rX4_readItem_b151 rp (20 + d) (nI k) (nI p) (nI d) (nI g.1.length) (nI g.2.1) M = some M' ∧ CPk d fr e oa fi (ends ++ [g'.1.length - oa]) M' ∧ VW M' p' g' 0 (-1) ∧ (d = 0 → IV M' (aRec d k p g g' p' rc)) ∧ Fm d fi M M' := by
  obtain ⟨p1, p2, p3, p4, p5, p6⟩ := hP
  obtain ⟨v1, v2, v3, v4, v5, v6, v7, v8⟩ := hV
  have c5 : (20 + d ≠ 29) := by omega
  -- the two writes
  have hM1 : ∀ c, c ≠ 29 → c ≠ 20 + d → (st (st M 29 (fi + ends.length) (nI g'.1.length)) (20 + d) 4 (nI (ends.length + 1))).1 c = M.1 c := fun c a b => by rw [st_ne b, st_ne a]
  have hCP : ∀ M', M'.1 29 = (st (st M 29 (fi + ends.length) (nI g'.1.length)) (20 + d) 4 (nI (ends.length + 1))).1 29 → M'.1 (20 + d) = (st (st M 29 (fi + ends.length) (nI g'.1.length)) (20 + d) 4 (nI (ends.length + 1))).1 (20 + d) → CPk d fr e oa fi (ends ++ [g'.1.length - oa]) M' := by
    intro M' a b
    unfold CPk
    rw [a, b, st_eq, st_ne (show (29 : Nat) ≠ 20 + d by omega), st_ne c5, st_eq]
    refine ⟨by rw [upd_n (by decide)]; exact p1, by rw [upd_n (by decide)]; exact p2, by rw [upd_n (by decide)]; exact p3, by rw [upd_n (by decide)]; exact p4, by rw [upd_s]; simp, ?_⟩
    intro j hj
    simp only [List.length_append, List.length_cons, List.length_nil] at hj
    rw [getD_app]
    by_cases h2 : j < ends.length
    · rw [if_pos h2, upd_n (by omega)]; exact p6 j h2
    · rw [if_neg h2, if_pos (by omega), show j = ends.length by omega, upd_s]; congr 1; omega
  have hu : rX4_readItem_b151 rp (20 + d) (nI k) (nI p) (nI d) (nI g.1.length) (nI g.2.1) M = if nI d = 0 then Option.bind (rX1_append (nI k) (nI p) (nI (g'.1.length - g.1.length)) (nI (g'.2.1 - g.2.1)) (nI (p' - p)) (st (st M 29 (fi + ends.length) (nI g'.1.length)) (20 + d) 4 (nI (ends.length + 1)))) fun M12 => some M12 else some (st (st M 29 (fi + ends.length) (nI g'.1.length)) (20 + d) 4 (nI (ends.length + 1))) := by
    unfold rX4_readItem_b151 rX4_readItem_b199
    have q4 : (st M 29 (fi + ends.length) (nI g'.1.length)).1 (20 + d) 4 = nI ends.length := by rw [st_ne c5]; exact p5
    rw [v5, if_pos (show nI 0 = 0 from rfl), lt_e, p4, p5, nI_add, if_neg (nI_pos (by omega)), if_neg (by rw [nI_leI (by omega) (by omega)]; omega), nI_clamp (by omega), if_neg (fun q => q.elim (nI_pos (by omega)) (by omega)), lt_e, lt_e, v7, q4, k_1, nI_add, hM1 6 (by decide) (by omega), hM1 5 (by decide) (by omega), v7, v2, v1, pk_sub hgl, pk_sub hgc, pk_sub hpp]
  by_cases h0 : d = 0
  · subst h0
    obtain ⟨i1, i2⟩ := hI rfl
    have hI1 : IV (st (st M 29 (fi + ends.length) (nI g'.1.length)) (20 + 0) 4 (nI (ends.length + 1))) rc := by
      unfold IV
      rw [hM1 9 (by decide) (by decide), hM1 10 (by decide) (by decide), hM1 11 (by decide) (by decide), hM1 12 (by decide) (by decide), hM1 13 (by decide) (by decide), hM1 14 (by decide) (by decide)]
      exact i1
    obtain ⟨M', e1, j1, j2, j3⟩ := e_iapp hI1 i2 k p (g'.1.length - g.1.length) (g'.2.1 - g.2.1) (p' - p)
    refine ⟨M', by rw [hu, if_pos (show nI 0 = 0 from rfl), e1]; rfl, hCP M' (j2 29 (by decide)) (j2 20 (by decide)), ?_, fun _ => ?_, ?_⟩
    · unfold VW
      rw [j2 5 (by decide), j2 6 (by decide), j2 7 (by decide), hM1 5 (by decide) (by decide), hM1 6 (by decide) (by decide), hM1 7 (by decide) (by decide)]
      exact ⟨v1, v2, v3, v4, v5, v6, v7, v8⟩
    · unfold aRec
      rw [if_pos rfl]; exact j1
    · refine ⟨fun c a b q f gg hh => ?_, fun j hj => ?_, fun h => absurd h (by decide), fun j hj => ?_, j3⟩
      · rw [j2 c (by omega), hM1 c f (by omega)]
      · rw [j2 29 (by decide), st_ne (by decide), st_eq, upd_n (by omega)]
      · rw [j2 5 (by decide), hM1 5 (by decide) (by decide)]
  · refine ⟨_, by rw [hu, if_neg (nI_ne0 (by omega) (by omega))], hCP _ rfl rfl, ?_, fun h => absurd h h0, ?_⟩
    · unfold VW
      rw [hM1 5 (by decide) (by omega), hM1 6 (by decide) (by omega), hM1 7 (by decide) (by omega)]
      exact ⟨v1, v2, v3, v4, v5, v6, v7, v8⟩
    · refine ⟨fun c a b q f gg hh => hM1 c f (by omega), fun j hj => ?_, fun _ c a b => hM1 c (by omega) (by omega), fun j hj => by rw [hM1 5 (by decide) (by omega)], rfl⟩
      rw [st_ne (by omega), st_eq, upd_n (by omega)]
theorem e_finF {rp : Int32 → Int32 → Int32 → Int32 → Mm → Option Mm} {M : Mm} {p' fc : Nat} {fp : Int32} {g' : Gs} {pk : Nat} {a b c x y : Int32} (hV : VW M p' g' fc fp) (h0 : fc ≠ 0) (h1 : fc < 100) : rX4_readItem_b151 rp pk a b c x y M = some M := by
  unfold rX4_readItem_b151
  rw [hV.2.2.2.2.1, if_neg (nI_ne0 (by omega) (by omega))]
end
