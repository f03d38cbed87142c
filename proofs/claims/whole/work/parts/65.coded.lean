section
variable {t : Nat → Nat} {n mo sp dp : Nat} {M0 M : Mm} {out : List Nat} {p co fc e : Nat} {fp : Int32} {sy ln : Nat → Nat} {m : Nat}
theorem lp_bits (B : Bc t n mo sp dp M0) (hm : m ≤ 8) (hl : ∀ k, k < m → ln k ≤ 7) (he : e ≤ n) (hsy : ∀ k, k < m → sy k < 256) : ∀ (r fuel i b s : Nat) (M : Mm) (out : List Nat), r < fuel → i + r < 1000 → CI M0 M out s co 0 (-1) → s ≤ e → TV sy ln m M → BV t b s M → out.length + r ≤ 4000 →
    ∃ M' s', rX4_readBits_b12 fuel (nI (i + r)) (nI e) (nI i) M = some M' ∧ CI M0 M' (aBits t e m sy ln r b out).2.2.2 s' co (aBits t e m sy ln r b out).1 (if (aBits t e m sy ln r b out).1 = 0 then -1 else nI (aBits t e m sy ln r b out).2.1) ∧ ((aBits t e m sy ln r b out).1 = 0 → s' = ((aBits t e m sy ln r b out).2.2.1 + 7) / 8) := by
  have b1 := B.1
  have hk7 := kL_le ln m hl
  intro r
  induction r with
  | zero =>
    intro fuel i b s M out hf hi h hs hT hb ho
    obtain ⟨f, rfl⟩ : ∃ f, fuel = f + 1 := ⟨fuel - 1, by omega⟩
    have hunf : rX4_readBits_b12 (f + 1) (nI (i + 0)) (nI e) (nI i) M = rX4_readBits_b12_s (rX4_readBits_b12 f) (nI (i + 0)) (nI e) (nI i) M := rfl
    unfold rX4_readBits_b12_s at hunf
    rw [if_pos (by rw [nI_leI (by omega) (by omega)]; omega)] at hunf
    rcases hb with ⟨z1, z2, z3, x, z4, z5⟩ | ⟨z1, z2, z3, z4⟩
    · rw [z3, z5, mask_b (l := 0) (by omega) (by decide), if_pos (by rw [Nat.pow_zero, Nat.mod_one]; rfl)] at hunf
      refine ⟨M, s, hunf, ?_⟩
      rw [aBits, if_neg (fun q => q.1 z1)]
      exact ⟨h, fun _ => by show s = (b + 7) / 8; omega⟩
    · have tb := B.2.1 (b / 8) (by omega)
      rw [z3, z4, mask_b (by omega) (by omega)] at hunf
      by_cases c1 : t (b / 8) % 2 ^ (8 - b % 8) = 0
      · rw [c1, if_pos (by rfl)] at hunf
        refine ⟨M, s, hunf, ?_⟩
        rw [aBits, if_neg (fun q => q.2 c1)]
        exact ⟨h, fun _ => by show s = (b + 7) / 8; omega⟩
      · have hlt : t (b / 8) % 2 ^ (8 - b % 8) ≤ t (b / 8) := Nat.mod_le _ _
        obtain ⟨M1, e1, h1⟩ := ev_fail (c := 8) (w := nI (b / 8)) h (by decide) (by decide)
        have h4 := h.2.2.2.1
        rw [if_neg (nI_ne0 (by omega) (by omega)), h4, z2, k_1, pk_sub (by omega), Nat.add_sub_cancel, k_8, e1] at hunf
        refine ⟨M1, s, hunf, ?_⟩
        rw [aBits, if_pos ⟨z1, c1⟩]
        exact ⟨h1, fun q => (by cases q)⟩
  | succ r ih =>
    intro fuel i b s M out hf hi h hs hT hb ho
    obtain ⟨f, rfl⟩ : ∃ f, fuel = f + 1 := ⟨fuel - 1, by omega⟩
    have hunf : rX4_readBits_b12 (f + 1) (nI (i + (r + 1))) (nI e) (nI i) M = rX4_readBits_b12_s (rX4_readBits_b12 f) (nI (i + (r + 1))) (nI e) (nI i) M := rfl
    unfold rX4_readBits_b12_s at hunf
    rw [if_neg (by rw [nI_leI (by omega) (by omega)]; omega)] at hunf
    have hsym : rX4_nextSymbol (nI e) M = rX4_nextSymbol_b26 FU (nI e) (nI (b / 8)) (nI 0) (nI 1) M := by
      have h4 := h.2.2.2.1
      unfold rX4_nextSymbol rX4_nextSymbol_b20
      rcases hb with ⟨z1, z2, z3, x, z4, z5⟩ | ⟨z1, z2, z3, z4⟩
      · rw [z3, if_pos (by decide), h4, z2]; rfl
      · rw [z3, if_neg (by rw [k_0, nI_leI (by omega) (by omega)]; omega), h4, z2, k_1, pk_sub (by omega), Nat.add_sub_cancel]; rfl
    obtain ⟨M1, s1, e1, h1, g1, g2⟩ := lp_next B hm hl he hsy (b / 8) (kL ln m) FU 1 0 b s M (by unfold FU; omega) (by omega) (by omega) (by decide) h hs hT hb
    rw [hsym, e1, bd2_some] at hunf
    rw [aBits]
    generalize hq : aSym t e m sy ln (kL ln m) 1 0 b = qq at e1 h1 g1 g2 hunf ⊢
    obtain ⟨q1, q2, q3⟩ := qq
    dsimp only at h1 g1 g2 hunf ⊢
    rcases g2 with rfl | rfl | rfl
    · obtain ⟨g3, g4, g5, g6⟩ := g1 rfl
      simp only [if_true] at hunf h1
      obtain ⟨M2, e2, h2⟩ := ev_app h1 q2 (by omega)
      rw [if_neg (nI_nm (by omega)), e2, Option.bind_some, lt_e, k_1, nI_add] at hunf
      have hT2 : TV sy ln m M2 ∧ BV t q3 s1 M2 := by
        unfold rX0_append at e2
        have h8 := h1.2.2.2.2.2.2.2.1
        have hd : ∀ d, d ≠ 6 → d ≠ 7 → M2.1 d = M1.1 d := by
          split at e2
          · cases e2; exact fun _ _ _ => rfl
          · simp only [lt_e] at e2
            have := (ob_gd e2).2
            cases this
            intro d hd1 hd2
            rw [st_ne hd1, st_ne hd2]
        constructor
        · unfold TV
          rw [hd 15 (by decide) (by decide), hd 16 (by decide) (by decide), hd 17 (by decide) (by decide), hd 18 (by decide) (by decide)]
          exact g4
        · unfold BV
          rw [hd 5 (by decide) (by decide)]
          exact g5
      obtain ⟨M3, s3, e3, h3⟩ := ih f (i + 1) q3 s1 M2 (out ++ [q2]) (by omega) (by omega) h2 g3 hT2.1 hT2.2 (by simp; omega)
      rw [show i + 1 + r = i + (r + 1) by omega] at e3
      exact ⟨M3, s3, hunf.trans e3, h3⟩
    · refine ⟨M1, s1, hunf, h1, fun q => (by cases q)⟩
    · refine ⟨M1, s1, hunf, h1, fun q => (by cases q)⟩
theorem bad_b84 {x1 x2 x3 x4 x5 : Int32} {f : Nat} (h : CI M0 M out p co fc fp) (hf : fc ≠ 0) (hf2 : fc < 100) : rX4_readTable_b84 (f + 1) x1 x2 x3 x4 x5 M = some (-1, M) := by
  have h6 := h.2.2.2.2.2.1
  have z : ¬ nI fc = 0 := nI_ne0 (by omega) (by omega)
  show rX4_readTable_b84_s (rX4_readTable_b84 f) x1 x2 x3 x4 x5 M = _
  unfold rX4_readTable_b84_s rX4_readTable_b140 rX4_readTable_b165
  simp only [h6, z, if_false, ite_self]
theorem lp_tsyB (hm : m ≤ 8) (hm1 : 1 ≤ m) (he : e ≤ 1200) (x1 : Int32) : ∀ (r fuel i s : Nat) (M : Mm), r < fuel → i + r = m → CI M0 M out s co 3 (nI e) → e ≤ s → s < 100000 → M.1 15 3 = nI m → ∃ M' s', rX4_readTable_b49 fuel x1 (nI e) (nI m) (nI i) M = some (-1, M') ∧ CI M0 M' out s' co 3 (nI e) := by
  intro r
  induction r with
  | zero =>
    intro fuel i s M hf hi h hs hs2 h3
    obtain ⟨f, rfl⟩ : ∃ f, fuel = f + 1 := ⟨fuel - 1, by omega⟩
    refine ⟨M, s, ?_, h⟩
    show rX4_readTable_b49_s (rX4_readTable_b49 f) _ _ _ _ M = _
    unfold rX4_readTable_b49_s
    rw [if_pos (by rw [nI_leI (by omega) (by omega)]; omega), lt_e]
    exact bad_b84 (f := 99999) h (by decide) (by decide)
  | succ r ih =>
    intro fuel i s M hf hi h hs hs2 h3
    obtain ⟨f, rfl⟩ : ∃ f, fuel = f + 1 := ⟨fuel - 1, by omega⟩
    obtain ⟨M1, e1, h1⟩ := ev_next0 h hs he hs2 (by decide)
    have h31 : M1.1 15 3 = nI m := by rw [(d_next e1).1 15 (by decide)]; exact h3
    have h2 : CI M0 (st M1 16 i (-1)) out s co 3 (nI e) := h1.tab (fun d hd => st_ne (by omega)) rfl
    obtain ⟨M2, s2, e2, k2⟩ := ih f (i + 1) s (st M1 16 i (-1)) (by omega) (by omega) h2 hs hs2 (by rw [st_ne (by decide)]; exact h31)
    refine ⟨M2, s2, ?_, k2⟩
    show rX4_readTable_b49_s (rX4_readTable_b49 f) _ _ _ _ M = _
    unfold rX4_readTable_b49_s rX5_putSymbol
    rw [if_neg (by rw [nI_leI (by omega) (by omega)]; omega), e1, bd2_some, if_neg (nI_pos (by omega)), h31, if_neg (by rw [nI_leI (by omega) (by omega)]; omega), nI_clamp (by omega), if_neg (fun q => q.elim (nI_pos (by omega)) (by omega)), lt_e, Option.bind_some, lt_e, k_1, nI_add]
    exact e2
theorem lp_tsy (B : Bc t n mo sp dp M0) (hm : m ≤ 8) (hm1 : 1 ≤ m) (he : e ≤ n) (x1 : Int32) : ∀ (r fuel i : Nat) (M : Mm), r < fuel → i + r = m → CI M0 M out (p + i) co 0 (-1) → p + i ≤ e → M.1 15 3 = nI m → M.1 15 4 = nI 0 → (∀ k, k < i → M.1 16 k = nI (t (p + k))) →
    (p + m ≤ e → ∃ M', rX4_readTable_b49 fuel x1 (nI e) (nI m) (nI i) M = rX4_readTable_b84 FU x1 (nI e) (nI m) (nI (p + m)) (nI 0) M' ∧ CI M0 M' out (p + m) co 0 (-1) ∧ M'.1 15 3 = nI m ∧ M'.1 15 4 = nI 0 ∧ (∀ k, k < m → M'.1 16 k = nI (t (p + k)))) ∧
    (e < p + m → ∃ M' s', rX4_readTable_b49 fuel x1 (nI e) (nI m) (nI i) M = some (-1, M') ∧ CI M0 M' out s' co 3 (nI e)) := by
  have b1 := B.1
  intro r
  induction r with
  | zero =>
    intro fuel i M hf hi h hp h3 h4 h6
    obtain ⟨f, rfl⟩ : ∃ f, fuel = f + 1 := ⟨fuel - 1, by omega⟩
    have him : i = m := by omega
    subst him
    refine ⟨fun _ => ⟨M, ?_, h, h3, h4, h6⟩, fun q => by omega⟩
    show rX4_readTable_b49_s (rX4_readTable_b49 f) _ _ _ _ M = _
    unfold rX4_readTable_b49_s
    have h9 := h.2.2.2.1
    rw [if_pos (by rw [nI_leI (by omega) (by omega)]; omega), lt_e, h9]
    rfl
  | succ r ih =>
    intro fuel i M hf hi h hp h3 h4 h6
    obtain ⟨f, rfl⟩ : ∃ f, fuel = f + 1 := ⟨fuel - 1, by omega⟩
    have hunf : ∀ {v : Int32} {M1 : Mm}, rX4_next (nI e) M = some (v, M1) → M1.1 15 3 = nI m → rX4_readTable_b49 (f + 1) x1 (nI e) (nI m) (nI i) M = rX4_readTable_b49 f x1 (nI e) (nI m) (nI (i + 1)) (st M1 16 i v) := by
      intro v M1 e1 h31
      show rX4_readTable_b49_s (rX4_readTable_b49 f) _ _ _ _ M = _
      unfold rX4_readTable_b49_s rX5_putSymbol
      rw [if_neg (by rw [nI_leI (by omega) (by omega)]; omega), e1, bd2_some, if_neg (nI_pos (by omega)), h31, if_neg (by rw [nI_leI (by omega) (by omega)]; omega), nI_clamp (by omega), if_neg (fun q => q.elim (nI_pos (by omega)) (by omega)), lt_e, Option.bind_some, lt_e, k_1, nI_add]
    by_cases c1 : e ≤ p + i
    · obtain ⟨M1, e1, h1⟩ := ev_next0 h c1 (by omega) (by omega) (by decide)
      have h31 : M1.1 15 3 = nI m := by rw [(d_next e1).1 15 (by decide)]; exact h3
      refine ⟨fun q => by omega, fun _ => ?_⟩
      rw [hunf e1 h31]
      exact lp_tsyB hm hm1 (by omega) x1 r f (i + 1) (p + i) _ (by omega) (by omega) (h1.tab (fun d hd => st_ne (by omega)) rfl) c1 (by omega) (by rw [st_ne (by decide)]; exact h31)
    · obtain ⟨M1, e1, h1⟩ := ev_next1 B h (e := e) (by omega) he
      have d1 := d_next e1
      have h31 : M1.1 15 3 = nI m := by rw [d1.1 15 (by decide)]; exact h3
      rw [hunf e1 h31]
      exact ih f (i + 1) _ (by omega) (by omega) (h1.tab (fun d hd => st_ne (by omega)) rfl) (by omega) (by rw [st_ne (by decide)]; exact h31) (by rw [st_ne (by decide), d1.1 15 (by decide)]; exact h4) (fun k hk => by
        rw [st_eq]
        by_cases hki : k = i
        · rw [hki, upd_s]
        · rw [upd_n hki, d1.1 16 (by decide)]; exact h6 k (by omega))
/-- the table's lengths -/
theorem lp_tln (B : Bc t n mo sp dp M0) (hm : m ≤ 8) (he : e ≤ n) (x1 : Int32) (at_ : Nat) : ∀ (r fuel i : Nat) (M : Mm), r < fuel → i + r = m → CI M0 M out (at_ + i) co 0 (-1) → at_ + i ≤ e → M.1 15 3 = nI m → M.1 15 4 = nI (kL (fun k => t (at_ + k)) i) → (∀ k, k < m → M.1 16 k = nI (sy k)) → (∀ k, k < i → M.1 17 k = nI (t (at_ + k)) ∧ t (at_ + k) ≤ 7) →
    (aLen t e at_ r i = none → ∃ M', rX4_readTable_b84 fuel x1 (nI e) (nI m) (nI at_) (nI i) M = rX4_readTable_b140 x1 (nI e) (nI m) (nI at_) M' ∧ CI M0 M' out (at_ + m) co 0 (-1) ∧ at_ + m ≤ e ∧ M'.1 15 3 = nI m ∧ M'.1 15 4 = nI (kL (fun k => t (at_ + k)) m) ∧ (∀ k, k < m → M'.1 16 k = nI (sy k)) ∧ (∀ k, k < m → M'.1 17 k = nI (t (at_ + k)) ∧ t (at_ + k) ≤ 7)) ∧
    (∀ q, aLen t e at_ r i = some q → ∃ M' s', rX4_readTable_b84 fuel x1 (nI e) (nI m) (nI at_) (nI i) M = some (-1, M') ∧ CI M0 M' out s' co q.1 (nI q.2) ∧ (q.1 = 3 ∨ q.1 = 6)) := by
  have b1 := B.1
  intro r
  induction r with
  | zero =>
    intro fuel i M hf hi h hp h3 h4 h6 h7
    obtain ⟨f, rfl⟩ : ∃ f, fuel = f + 1 := ⟨fuel - 1, by omega⟩
    have him : i = m := by omega
    subst him
    refine ⟨fun _ => ⟨M, ?_, h, hp, h3, h4, h6, h7⟩, fun q hq => (by cases hq)⟩
    show rX4_readTable_b84_s (rX4_readTable_b84 f) _ _ _ _ _ M = _
    unfold rX4_readTable_b84_s
    rw [if_pos (by rw [nI_leI (by omega) (by omega)]; omega)]
  | succ r ih =>
    intro fuel i M hf hi h hp h3 h4 h6 h7
    obtain ⟨f, rfl⟩ : ∃ f, fuel = f + 1 := ⟨fuel - 1, by omega⟩
    obtain ⟨f', rfl⟩ : ∃ f', f = f' + 1 := ⟨f - 1, by omega⟩
    have h15 := h.2.2.2.2.2.1
    have hunf : rX4_readTable_b84 (f' + 1 + 1) x1 (nI e) (nI m) (nI at_) (nI i) M = rX4_readTable_b84_s (rX4_readTable_b84 (f' + 1)) x1 (nI e) (nI m) (nI at_) (nI i) M := rfl
    unfold rX4_readTable_b84_s rX4_readTable_b123 rX5_putLength at hunf
    rw [if_neg (by rw [nI_leI (by omega) (by omega)]; omega), h15, if_pos (show nI 0 = 0 from rfl)] at hunf
    have hk7 : kL (fun k => t (at_ + k)) i ≤ 7 := kL_le _ i (fun k hk => (h7 k hk).2)
    by_cases c1 : e ≤ at_ + i
    · obtain ⟨M1, e1, h1⟩ := ev_next0 h c1 (by omega) (by omega) (by decide)
      have d1 := d_next e1
      have h31 : M1.1 15 3 = nI m := by rw [d1.1 15 (by decide)]; exact h3
      rw [e1, bd2_some, if_pos (by decide), if_neg (nI_pos (by omega)), h31, if_neg (by rw [nI_leI (by omega) (by omega)]; omega), nI_clamp (by omega), if_neg (fun q => q.elim (nI_pos (by omega)) (by omega)), lt_e, lt_e, Option.bind_some, lt_e] at hunf
      have hA : aLen t e at_ (r + 1) i = some (3, e) := by rw [aLen, if_pos c1]
      rw [hA]
      refine ⟨fun q => (by cases q), fun q hq => ?_⟩
      cases hq
      have h2 := (h1.tab (M1 := st M1 17 i (-1)) (fun d hd => st_ne (by omega)) rfl)
      have h3' := h2.tab (M1 := st (st M1 17 i (-1)) 15 4 (if (st M1 17 i (-1)).1 15 4 < -1 then -1 else (st M1 17 i (-1)).1 15 4)) (fun d hd => st_ne (by omega)) rfl
      exact ⟨_, _, by rw [hunf]; exact bad_b84 h3' (by decide) (by decide), h3', Or.inl rfl⟩
    · obtain ⟨M1, e1, h1⟩ := ev_next1 B h (e := e) (by omega) he
      have tb := B.2.1 (at_ + i) (by omega)
      have d1 := d_next e1
      have h31 : M1.1 15 3 = nI m := by rw [d1.1 15 (by decide)]; exact h3
      rw [e1, bd2_some] at hunf
      by_cases c2 : 7 < t (at_ + i)
      · obtain ⟨M2, e2, h2⟩ := ev_fail (c := 6) (w := nI (at_ + i)) h1 (by decide) (by decide)
        have d2 := d_fail e2
        have h19 := h1.2.2.2.1
        have h32 : M2.1 15 3 = nI m := by rw [d2.1 15 (by decide)]; exact h31
        rw [if_neg (by rw [k_7, nI_leI (by omega) (by omega)]; omega), h19, k_1, pk_sub (by omega), Nat.add_sub_cancel, k_6, e2, Option.bind_some, if_neg (nI_pos (by omega)), h32, if_neg (by rw [nI_leI (by omega) (by omega)]; omega), nI_clamp (by omega), if_neg (fun q => q.elim (nI_pos (by omega)) (by omega)), lt_e, lt_e, Option.bind_some, lt_e] at hunf
        have hA : aLen t e at_ (r + 1) i = some (6, at_ + i) := by rw [aLen, if_neg c1, if_pos c2]
        rw [hA]
        refine ⟨fun q => (by cases q), fun q hq => ?_⟩
        cases hq
        have h3' := (h2.tab (M1 := st M2 17 i (nI (t (at_ + i)))) (fun d hd => st_ne (by omega)) rfl).tab (M1 := st (st M2 17 i (nI (t (at_ + i)))) 15 4 (if (st M2 17 i (nI (t (at_ + i)))).1 15 4 < nI (t (at_ + i)) then nI (t (at_ + i)) else (st M2 17 i (nI (t (at_ + i)))).1 15 4)) (fun d hd => st_ne (by omega)) rfl
        exact ⟨_, _, by rw [hunf]; exact bad_b84 h3' (by decide) (by decide), h3', Or.inr rfl⟩
      · have hA : aLen t e at_ (r + 1) i = aLen t e at_ r (i + 1) := by rw [aLen, if_neg c1, if_neg c2]
        rw [hA]
        have h41 : (st M1 17 i (nI (t (at_ + i)))).1 15 4 = nI (kL (fun k => t (at_ + k)) i) := by rw [st_ne (by decide), d1.1 15 (by decide)]; exact h4
        have hkl : (if nI (kL (fun k => t (at_ + k)) i) < nI (t (at_ + i)) then nI (t (at_ + i)) else nI (kL (fun k => t (at_ + k)) i)) = nI (kL (fun k => t (at_ + k)) (i + 1)) := by
          rw [kL]
          by_cases c3 : kL (fun k => t (at_ + k)) i < t (at_ + i)
          · rw [if_pos ((nI_ltI (by omega) (by omega)).mpr c3), if_pos c3]
          · rw [if_neg (by rw [nI_ltI (by omega) (by omega)]; exact c3), if_neg c3]
        rw [if_pos (by rw [k_7, nI_leI (by omega) (by omega)]; omega), if_neg (nI_pos (by omega)), h31, if_neg (by rw [nI_leI (by omega) (by omega)]; omega), nI_clamp (by omega), if_neg (fun q => q.elim (nI_pos (by omega)) (by omega)), lt_e, lt_e, h41, hkl, Option.bind_some, lt_e, k_1, nI_add] at hunf
        rw [hunf]
        refine ih (f' + 1) (i + 1) _ (by omega) (by omega) ?_ (by omega) ?_ ?_ ?_ ?_
        · exact (h1.tab (M1 := st M1 17 i (nI (t (at_ + i)))) (fun d hd => st_ne (by omega)) rfl).tab (fun d hd => st_ne (by omega)) rfl
        · rw [st_eq, upd_n (by decide), st_ne (by decide)]; exact h31
        · rw [st_eq, upd_s]
        · intro k hk; rw [st_ne (by decide), st_ne (by decide), d1.1 16 (by decide)]; exact h6 k hk
        · intro k hk
          rw [st_ne (by decide), st_eq]
          by_cases hki : k = i
          · rw [hki, upd_s]; exact ⟨rfl, by omega⟩
          · rw [upd_n hki, d1.1 17 (by decide)]; exact h7 k (by omega)
end
