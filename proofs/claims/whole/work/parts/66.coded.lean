section
variable {t : Nat → Nat} {n mo sp dp : Nat} {M0 M : Mm} {out : List Nat} {p co fc e : Nat} {fp : Int32}
theorem e_bitsN {x : Int32} (h : CI M0 M out p co fc fp) : ∃ M', rX4_readBits (-1) x M = some M' ∧ CI M0 M' out p co fc fp := by
  refine ⟨st (st M 5 10 0) 5 11 0, ?_, (h.bit 10 (by decide) _).bit 11 (by decide) _⟩
  unfold rX4_readBits
  rw [lt_e, lt_e]
  show rX4_readBits_b12_s (rX4_readBits_b12 99999) (-1) x 0 (st (st M 5 10 0) 5 11 0) = _
  unfold rX4_readBits_b12_s
  have e1 : (st (st M 5 10 0) 5 11 0).1 5 10 = nI 0 := by rw [st_eq, upd_n (by decide), st_eq, upd_s]; rfl
  have e2 : (st (st M 5 10 0) 5 11 0).1 5 11 = nI 0 := by rw [st_eq, upd_s]; rfl
  rw [if_pos (by decide), e1, e2, if_pos (by decide)]
theorem e_coded (B : Bc t n mo sp dp M0) (h : CI M0 M out (p + 1) co 0 (-1)) (hpe : p < e) (he : e ≤ n) (ho : out.length ≤ mo) (hc : co ≤ sp) : ∃ r M1 M2, rX4_readTable (nI p) (nI e) M = some (r, M1) ∧ M1.1 5 8 = M0.1 5 8 ∧ (∀ c, 19 ≤ c → M1.1 c = M0.1 c) ∧ rX4_readBits r (nI e) M1 = some M2 ∧ RS M0 M2 (aCoded t mo sp e p out co) := by
  obtain ⟨b1, b2, b3, b4, b5, -⟩ := id B
  have bad : ∀ {M1 : Mm} {s c w : Nat}, rX4_readTable (nI p) (nI e) M = some (-1, M1) → CI M0 M1 out s co c (nI w) → c ≠ 0 → aCoded t mo sp e p out co = rf c w out co → ∃ r M1 M2, rX4_readTable (nI p) (nI e) M = some (r, M1) ∧ M1.1 5 8 = M0.1 5 8 ∧ (∀ c, 19 ≤ c → M1.1 c = M0.1 c) ∧ rX4_readBits r (nI e) M1 = some M2 ∧ RS M0 M2 (aCoded t mo sp e p out co) := by
    intro M1 s c w e1 h1 hc0 hA
    obtain ⟨M2, e2, h2⟩ := e_bitsN (x := nI e) h1
    refine ⟨_, M1, M2, e1, h1.2.1 8 (by decide) (by decide) (by decide) (by decide) (by decide) (by decide), fun c hc => h1.1 c (by omega) (by omega) (by omega) (by omega), e2, ?_⟩
    rw [hA]
    exact RS.no h2 hc0
  by_cases c1 : e ≤ p + 1
  · obtain ⟨M1, e1, h1⟩ := ev_next0 h c1 (by omega) (by omega) (by decide)
    refine bad (by unfold rX4_readTable; rw [e1]; rfl) h1 (by decide) ?_
    unfold aCoded
    rw [if_pos c1]; rfl
  obtain ⟨M1, e1, h1⟩ := ev_next1 B h (by omega) he
  have tb := b2 (p + 1) (by omega)
  have h19 := h1.2.2.2.1
  have hT : rX4_readTable (nI p) (nI e) M = if nI (t (p + 1)) < 1 then rX4_readTable_b24 M1 else if nI (t (p + 1)) ≤ 8 then Option.bind (rX5_begin (nI (t (p + 1))) M1) fun M10 => rX4_readTable_b49 FU (nI p) (nI e) (nI (t (p + 1))) 0 M10 else rX4_readTable_b24 M1 := by
    unfold rX4_readTable
    rw [e1, bd2_some, if_neg (nI_nm (by omega))]
  by_cases c2 : t (p + 1) < 1 ∨ 8 < t (p + 1)
  · obtain ⟨M2, e2, h2⟩ := ev_fail (c := 6) (w := nI (p + 1)) h1 (by decide) (by decide)
    have e3 : rX4_readTable_b24 M1 = some (-1, M2) := by
      unfold rX4_readTable_b24
      rw [h19, k_1, pk_sub (by omega), Nat.add_sub_cancel, k_6, e2]
      rfl
    refine bad ?_ h2 (by decide) ?_
    · rw [hT, e3]
      by_cases c3 : t (p + 1) < 1
      · rw [if_pos (show nI (t (p + 1)) < 1 from (nI_ltI (b := 1) (by omega) (by omega)).mpr c3)]
      · rw [if_neg (show ¬ nI (t (p + 1)) < 1 from fun q => c3 ((nI_ltI (b := 1) (by omega) (by omega)).mp q)), if_neg (show ¬ nI (t (p + 1)) ≤ 8 from fun q => absurd ((nI_leI (b := 8) (by omega) (by omega)).mp q) (by omega))]
    · unfold aCoded
      rw [if_neg c1, if_pos c2]; rfl
  have hm1 : 1 ≤ t (p + 1) := by omega
  have hm8 : t (p + 1) ≤ 8 := by omega
  obtain ⟨m, hm⟩ : ∃ m, m = t (p + 1) := ⟨_, rfl⟩
  -- the table begins
  have hbeg : rX5_begin (nI m) M1 = some (st (st M1 15 3 (nI m)) 15 4 0) := by
    unfold rX5_begin
    have z1 : ¬ nI 8 < nI m := by rw [nI_ltI (by omega) (by omega)]; omega
    have z2 : nI 0 < nI m := (nI_ltI (by omega) (by omega)).mpr (by omega)
    rw [k_8, k_0, if_neg z1, if_pos z2]
    rfl
  rw [← hm, k_1, k_8, if_neg (by rw [nI_ltI (by omega) (by omega)]; omega), if_pos ((nI_leI (by omega) (by omega)).mpr (by omega)), hbeg, Option.bind_some] at hT
  have h2 : CI M0 (st (st M1 15 3 (nI m)) 15 4 0) out (p + 2 + 0) co 0 (-1) := (h1.tab (M1 := st M1 15 3 (nI m)) (fun d hd => st_ne (by omega)) rfl).tab (fun d hd => st_ne (by omega)) rfl
  obtain ⟨s1, s2⟩ := lp_tsy B (m := m) (p := p + 2) (e := e) (by omega) (by omega) he (nI p) m FU 0 _ (by unfold FU; omega) (by omega) h2 (by omega) (by rw [st_eq, upd_n (by decide), st_eq, upd_s]) (by rw [st_eq, upd_s]; rfl) (fun k hk => by omega)
  rw [show nI 0 = 0 from rfl] at s1 s2
  by_cases c3 : e < p + 2 + m
  · obtain ⟨M3, s3, e3, h3⟩ := s2 c3
    refine bad (hT.trans e3) h3 (by decide) ?_
    unfold aCoded
    rw [if_neg c1, if_neg c2, if_pos (by omega)]
  obtain ⟨M3, e3, h3, g3, g4, g6⟩ := s1 (by omega)
  rw [e3] at hT
  obtain ⟨l1, l2⟩ := lp_tln B (m := m) (e := e) (sy := fun k => t (p + 2 + k)) (by omega) he (nI p) (p + 2 + m) m FU 0 M3 (by unfold FU; omega) (by omega) h3 (by omega) g3 g4 g6 (fun k hk => by omega)
  have hA0 : aCoded t mo sp e p out co = match aLen t e (p + 2 + m) m 0 with
      | some q => rf q.1 q.2 out co
      | none =>
        if ¬ (kS (fun k => t (p + 2 + m + k)) m = 128 ∨ (kU (fun k => t (p + 2 + m + k)) m = 1 ∧ kL (fun k => t (p + 2 + m + k)) m = 1)) then rf 6 (p + 2 + m) out co else
        if e ≤ p + 2 + m + m then rf 3 e out co else
        if aPay mo sp out.length co (t (p + 2 + m + m)) (3 + 2 * m + 2 * t (p + 2 + m + m)) = 0 then
          let r := aBits t e m (fun k => t (p + 2 + k)) (fun k => t (p + 2 + m + k)) (t (p + 2 + m + m)) (8 * (p + 2 + m + m + 1)) out
          if r.1 = 0 then rk ((r.2.2.1 + 7) / 8) r.2.2.2 (co + (3 + 2 * m + 2 * t (p + 2 + m + m))) else rf r.1 r.2.1 r.2.2.2 (co + (3 + 2 * m + 2 * t (p + 2 + m + m)))
        else rf (aPay mo sp out.length co (t (p + 2 + m + m)) (3 + 2 * m + 2 * t (p + 2 + m + m))) p out co := by
    unfold aCoded
    rw [if_neg c1, if_neg c2, if_neg (by omega), ← hm]
    rfl
  cases hL : aLen t e (p + 2 + m) m 0 with
  | some q =>
    obtain ⟨M4, s4, e4, h4, h5⟩ := l2 q hL
    refine bad (hT.trans e4) h4 (by omega) ?_
    rw [hA0, hL]
  | none =>
    obtain ⟨M4, e4, h4, q1, q3, q4, q6, q7⟩ := l1 hL
    rw [hL] at hA0
    dsimp only at hA0
    rw [show rX4_readTable_b84 FU (nI p) (nI e) (nI m) (nI (p + 2 + m)) 0 M3 = rX4_readTable_b140 (nI p) (nI e) (nI m) (nI (p + 2 + m)) M4 from e4] at hT
    have hl7 : ∀ k, k < m → (fun k => t (p + 2 + m + k)) k ≤ 7 := fun k hk => (q7 k hk).2
    have hgd := lp_good (ln := fun k => t (p + 2 + m + k)) (by omega) hl7 q3 q4 (fun k hk => (q7 k hk).1) m FU 0 (by unfold FU; omega) (by omega)
    have h415 := h4.2.2.2.2.2.1
    have hT2 : rX4_readTable (nI p) (nI e) M = bd2 (rX5_isGood M4) fun r28 M27 => if r28 = 0 then (Option.bind (rX4_fail 6 (nI (p + 2 + m)) M27) fun M31 => rX4_readTable_b165 (nI p) (nI e) (nI m) M31) else (rX4_readTable_b165 (nI p) (nI e) (nI m) M27) := by
      rw [hT]
      unfold rX4_readTable_b140
      rw [h415, if_pos (show nI 0 = 0 from rfl)]
    by_cases c4 : kS (fun k => t (p + 2 + m + k)) m = 128 ∨ (kU (fun k => t (p + 2 + m + k)) m = 1 ∧ kL (fun k => t (p + 2 + m + k)) m = 1)
    · have eG : rX5_isGood M4 = some (1, M4) := hgd.1 c4
      rw [eG, bd2_some, if_neg (by decide)] at hT2
      unfold rX4_readTable_b165 at hT2
      obtain ⟨M5, e5, d5, g5⟩ := e_makeCodes (ln := fun k => t (p + 2 + m + k)) (m := m) (by omega) hl7 q3 q4 (fun k hk => (q7 k hk).1)
      rw [h415, if_pos (show nI 0 = 0 from rfl), e5, Option.bind_some] at hT2
      have h5 : CI M0 M5 out (p + 2 + m + m) co 0 (-1) := h4.tab (fun d hd => d5.1 d (by omega)) d5.2
      rw [if_neg (by rw [Classical.not_not]; exact c4)] at hA0
      have hTV5 : TV (fun k => t (p + 2 + k)) (fun k => t (p + 2 + m + k)) m M5 := by
        unfold TV
        rw [d5.1 15 (by decide), d5.1 16 (by decide), d5.1 17 (by decide)]
        exact ⟨q3, q4, q6, fun k hk => (q7 k hk).1, g5⟩
      by_cases c5 : e ≤ p + 2 + m + m
      · obtain ⟨M6, e6, h6⟩ := ev_next0 h5 c5 (by omega) (by omega) (by decide)
        refine bad (by rw [hT2, e6]; rfl) h6 (by decide) ?_
        rw [hA0, if_pos c5]; rfl
      · obtain ⟨M6, e6, h6⟩ := ev_next1 B h5 (e := e) (by omega) he
        have tb2 := b2 (p + 2 + m + m) (by omega)
        have hTV6 := hTV5.mv (d_next e6)
        rw [if_neg c5] at hA0
        obtain ⟨M7, e7, h7⟩ := ev_pay B h6 p (t (p + 2 + m + m)) (3 + 2 * m + 2 * t (p + 2 + m + m)) (by omega) (by omega) (by omega) (by omega)
        have hTV7 := hTV6.mv (d_pay e7)
        rw [e6, bd2_some, if_neg (nI_nm (by omega)), k_3, k_2, nI_mul, nI_mul, nI_add, nI_add, e7, bd2_some] at hT2
        by_cases c6 : aPay mo sp out.length co (t (p + 2 + m + m)) (3 + 2 * m + 2 * t (p + 2 + m + m)) = 0
        · simp only [c6, if_true] at hT2 h7
          rw [if_neg (by decide)] at hT2
          obtain ⟨g1, g2⟩ := aPay_cap c6
          rw [if_pos c6] at hA0
          have h8 : CI M0 (st (st M7 5 10 0) 5 11 0) out (p + 2 + m + m + 1) (co + (3 + 2 * m + 2 * t (p + 2 + m + m))) 0 (-1) := (h7.bit 10 (by decide) _).bit 11 (by decide) _
          have hTV8 : TV (fun k => t (p + 2 + k)) (fun k => t (p + 2 + m + k)) m (st (st M7 5 10 0) 5 11 0) := hTV7.mv (D1.st.tr D1.st)
          obtain ⟨M9, s9, e9, h9, h10⟩ := lp_bits B (m := m) (e := e) (sy := fun k => t (p + 2 + k)) (ln := fun k => t (p + 2 + m + k)) (by omega) hl7 he (fun k hk => b2 _ (by omega)) (t (p + 2 + m + m)) FU 0 (8 * (p + 2 + m + m + 1)) (p + 2 + m + m + 1) _ out (by unfold FU; omega) (by omega) h8 (by omega) hTV8 (Or.inl ⟨by omega, by omega, by rw [st_eq, upd_s]; rfl, 0, by decide, by rw [st_eq, upd_n (by decide), st_eq, upd_s]; rfl⟩) (by omega)
          rw [Nat.zero_add] at e9
          refine ⟨_, M7, M9, hT2, h7.2.1 8 (by decide) (by decide) (by decide) (by decide) (by decide) (by decide), fun c hc => h7.1 c (by omega) (by omega) (by omega) (by omega), e9, ?_⟩
          rw [hA0]
          generalize hR : aBits t e m (fun k => t (p + 2 + k)) (fun k => t (p + 2 + m + k)) (t (p + 2 + m + m)) (8 * (p + 2 + m + m + 1)) out = R at h9 h10 ⊢
          by_cases c7 : R.1 = 0
          · rw [if_pos c7]
            rw [if_pos c7, c7] at h9
            exact ⟨s9, fun _ => h10 c7, h9⟩
          · rw [if_neg c7]
            rw [if_neg c7] at h9
            exact ⟨s9, fun q => absurd q c7, h9⟩
        · simp only [c6, if_false] at hT2 h7
          refine bad hT2 h7 c6 ?_
          rw [hA0, if_neg c6]
    · have eG : rX5_isGood M4 = some (0, M4) := hgd.2 c4
      obtain ⟨M5, e5, h5⟩ := ev_fail (c := 6) (w := nI (p + 2 + m)) h4 (by decide) (by decide)
      have h515 := h5.2.2.2.2.2.1
      rw [eG, bd2_some, if_pos rfl, k_6, e5, Option.bind_some] at hT2
      refine bad (M1 := M5) ?_ h5 (by decide) ?_
      · rw [hT2]
        unfold rX4_readTable_b165
        rw [h515, if_neg (by decide)]
      · rw [hA0, if_pos c4]; rfl
end
