theorem jj_mv {A B A' B' : Mm} (h : JJ A B) (ha : ∀ c, c < 31 → A'.1 c = A.1 c ∧ A'.2 c = A.2 c) (hb : ∀ c, 31 ≤ c → B'.1 c = B.1 c ∧ B'.2 c = B.2 c) : JJ A' B' := by
  obtain ⟨t, n, sd, r, rd, hc, hr, h1⟩ := h
  refine ⟨t, n, sd, r, rd, ?_, ?_, h1⟩
  · unfold CJ TpC VW IV at hc ⊢
    rw [(ha 1 (by decide)).1, (ha 2 (by decide)).1, (ha 4 (by decide)).2, (ha 5 (by decide)).1, (ha 6 (by decide)).1, (ha 7 (by decide)).1, (ha 9 (by decide)).1, (ha 10 (by decide)).1, (ha 11 (by decide)).1, (ha 12 (by decide)).1, (ha 13 (by decide)).1, (ha 14 (by decide)).1]
    exact hc
  · unfold RJ TpR RdR RG IR at hr ⊢
    rw [(hb 31 (by decide)).1, (hb 31 (by decide)).2, (hb 32 (by decide)).1, (hb 33 (by decide)).1, (hb 36 (by decide)).1, (hb 38 (by decide)).1, (hb 43 (by decide)).1, (hb 44 (by decide)).1, (hb 45 (by decide)).1, (hb 46 (by decide)).1]
    exact hr
/-- the two programs' calls one after the other, in one memory -/
theorem jn_step {fc fr : Mm → Option (Int32 × Mm)} (hs : ∀ Mc Mr : Mm, JJ Mc Mr → Step2 fc fr Mc Mr) (hfc : ∀ (M M' : Mm) (r : Int32), fc M = some (r, M') → Fc M M') (hfr : ∀ (M M' : Mm) (r : Int32), fr M = some (r, M') → Fr M M') {M : Mm} (h : JJ M M) : ∃ (x : Int32) (M1 M2 : Mm), fc M = some (x, M1) ∧ fr M1 = some (x, M2) ∧ JJ M2 M2 := by
  obtain ⟨x, M1, Mr1, e1, -, -⟩ := hs M M h
  have f1 := hfc M M1 x e1
  have h2 : JJ M M1 := jj_mv h (fun _ _ => ⟨rfl, rfl⟩) f1
  obtain ⟨x', M1', M2, e1', e2, h3⟩ := hs M M1 h2
  rw [e1] at e1'
  have q := Option.some.inj e1'
  have q1 : x = x' := congrArg Prod.fst q
  have q2 : M1 = M1' := congrArg Prod.snd q
  subst q1
  subst q2
  exact ⟨x, M1, M2, e1, e2, jj_mv h3 (hfr M1 M2 x e2) (fun _ _ => ⟨rfl, rfl⟩)⟩
theorem law_go {fc fr : Mm → Option (Int32 × Mm)} {g : Mm → Option Int32} (hs : ∀ Mc Mr : Mm, JJ Mc Mr → Step2 fc fr Mc Mr) (hfc : ∀ (M M' : Mm) (r : Int32), fc M = some (r, M') → Fc M M') (hfr : ∀ (M M' : Mm) (r : Int32), fr M = some (r, M') → Fr M M') {M : Mm} (h : JJ M M) (hg : ∀ M' : Mm, JJ M' M' → g M' = some 1) : (bd2 (fc M) fun r M1 => bd2 (fr M1) fun r' M2 => if r = r' then g M2 else (some (0 : Int32))) = some 1 := by
  obtain ⟨x, M1, M2, e1, e2, h3⟩ := jn_step hs hfc hfr h
  rw [e1, bd2_some, e2, bd2_some, if_pos rfl]
  exact hg M2 h3
theorem ite_go {α : Type} {c : Prop} [hd : Decidable c] {a b v : α} (h1 : c → a = v) (h2 : ¬ c → b = v) : (if c then a else b) = v := by
  by_cases h : c
  · rw [if_pos h]; exact h1 h
  · rw [if_neg h]; exact h2 h
set_option maxHeartbeats 4000000 in
theorem law_ind {L : Nat} {xs : Nat → Int32} (hL : L ≤ 2049) : ∀ (f i : Nat) (M : Mm), i ≤ L + 1 → L + 1 < i + f → JJ M M → rL_law_b30 L xs f (nI i) M = some 1
  | 0, i, M, h1, h2, _ => absurd h2 (by omega)
  | f + 1, i, M, h1, h2, h => by
    show rL_law_b30_s L xs (rL_law_b30 L xs f) (nI i) M = some 1
    unfold rL_law_b30_s
    by_cases c : nI L - (4 : Int32) < nI i
    · rw [if_pos c]
    rw [if_neg c]
    have hi : i + 4 ≤ L := by
      rw [Int32.lt_iff_toInt_lt, show (4 : Int32) = nI 4 from rfl, pk_sub_toInt (by omega) (by decide), nI_toInt (by omega)] at c
      omega
    have e1 : nI i + (1 : Int32) = nI (i + 1) := nI_add i 1
    have e2 : nI i + (2 : Int32) = nI (i + 2) := nI_add i 2
    have e3 : nI i + (3 : Int32) = nI (i + 3) := nI_add i 3
    have e4 : nI i + (4 : Int32) = nI (i + 4) := nI_add i 4
    have g0 : ¬ (nI i < 0 ∨ L ≤ (nI i).toNatClampNeg) := nocl (by omega) (by omega)
    have g1 : ¬ (nI i + (1 : Int32) < 0 ∨ L ≤ (nI i + (1 : Int32)).toNatClampNeg) := by rw [e1]; exact nocl (by omega) (by omega)
    have g2 : ¬ (nI i + (2 : Int32) < 0 ∨ L ≤ (nI i + (2 : Int32)).toNatClampNeg) := by rw [e2]; exact nocl (by omega) (by omega)
    have g3 : ¬ (nI i + (3 : Int32) < 0 ∨ L ≤ (nI i + (3 : Int32)).toNatClampNeg) := by rw [e3]; exact nocl (by omega) (by omega)
    have hg : ∀ M' : Mm, JJ M' M' → rL_law_b474 L xs (rL_law_b30 L xs f) (nI i) M' = some 1 := fun M' h' => by
      unfold rL_law_b474
      rw [lt_e, e4]
      exact law_ind hL f (i + 4) M' (by omega) (by omega) h'
    simp only [if_neg g0, if_neg g1, if_neg g2, if_neg g3]
    refine ite_go (fun _ => law_go (fun _ _ q => s_feed q _ _) (fun _ _ _ q => fX6_feed q) (fun _ _ _ q => fX7_feed q) h hg) (fun _ => ?_)
    refine ite_go (fun _ => law_go (fun _ _ q => s_cut q _) (fun _ _ _ q => fX6_cut q) (fun _ _ _ q => fX7_cut q) h hg) (fun _ => ?_)
    refine ite_go (fun _ => law_go (fun _ _ q => s_alter q _ _) (fun _ _ _ q => fX6_alter q) (fun _ _ _ q => fX7_alter q) h hg) (fun _ => ?_)
    refine ite_go (fun _ => law_go (fun _ _ q => s_at q _) (fun _ _ _ q => fX6_at q) (fun _ _ _ q => fX7_at q) h hg) (fun _ => ?_)
    refine ite_go (fun _ => law_go (fun _ _ q => s_mend q) (fun _ _ _ q => fX6_mend q) (fun _ _ _ q => fX7_mend q) h hg) (fun _ => ?_)
    refine ite_go (fun _ => law_go (fun _ _ q => s_draw q _ _) (fun _ _ _ q => fX6_draw q) (fun _ _ _ q => fX7_draw q) h hg) (fun _ => ?_)
    refine ite_go (fun _ => law_go (fun _ _ q => s_open q _ _ _) (fun _ _ _ q => fX6_open q) (fun _ _ _ q => fX7_open q) h hg) (fun _ => ?_)
    refine ite_go (fun _ => law_go (fun _ _ q => s_place q) (fun _ _ _ q => fX6_place q) (fun _ _ _ q => fX7_place q) h hg) (fun _ => ?_)
    refine ite_go (fun _ => law_go (fun _ _ q => s_out q _) (fun _ _ _ q => fX6_out q) (fun _ _ _ q => fX7_out q) h hg) (fun _ => ?_)
    refine ite_go (fun _ => law_go (fun _ _ q => s_item q _ _) (fun _ _ _ q => fX6_item q) (fun _ _ _ q => fX7_item_ q) h hg) (fun _ => ?_)
    refine ite_go (fun _ => law_go (fun _ _ q => s_shrink q _ _ _) (fun _ _ _ q => fX6_shrink q) (fun _ _ _ q => fX7_shrink q) h hg) (fun _ => ?_)
    refine ite_go (fun _ => law_go (fun _ _ q => s_count q _) (fun _ _ _ q => fX6_count q) (fun _ _ _ q => fX7_count q) h hg) (fun _ => ?_)
    exact hg M h
theorem jj_0 (sd : Int64) : JJ (M0 sd) (M0 sd) := by
  refine ⟨fun _ => 0, 0, sd, (0, -1, 0, ([], 0, 0, 0), []), 0, ?_, ?_, by decide, by decide, by decide⟩
  · refine ⟨⟨by decide, fun i q => absurd q (Nat.not_lt_zero i), rfl, fun i q => absurd q (Nat.not_lt_zero i)⟩, rfl, ⟨0, rfl, rfl, rfl, rfl, rfl, rfl, rfl, fun i q => absurd q (Nat.not_lt_zero i)⟩, ⟨rfl, fun i q => absurd q (Nat.not_lt_zero i)⟩, rfl⟩
  · refine ⟨⟨by decide, fun i q => absurd q (Nat.not_lt_zero i), rfl, fun i q => absurd q (Nat.not_lt_zero i)⟩, rfl, ⟨⟨rfl, fun i q => absurd q (Nat.not_lt_zero i), rfl, rfl, rfl, rfl, rfl⟩, fun i q => absurd q (Nat.not_lt_zero i), rfl, fun q => absurd rfl q⟩, rfl⟩
theorem hpure_ok (L : Nat) (xs : Nat → Int32) (hL : L ≤ 2049) : rL_law_b30 L xs FU 1 (M0 (ld0 L xs)) = some 1 := by
  show rL_law_b30 L xs FU (nI 1) (M0 (ld0 L xs)) = some 1
  refine law_ind hL FU 1 _ (by omega) ?_ (jj_0 _)
  show L + 1 < 1 + 100000
  omega
