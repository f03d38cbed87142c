theorem fb_eq (w : Int64) (U : UInt64) (S : Int64) (k : Nat) (hk : k ≤ 56) (hU : (U.toBitVec % 64).toNat = k) (hS : (S.toBitVec.smod 64).toNat = k) : ((w >>> S) &&& 255).toInt32 = ((w.toUInt64 >>> U).toInt64).toInt32 &&& 255 := by
  apply Int32.toBitVec_inj.mp
  apply BitVec.eq_of_getLsbD_eq
  intro j hj
  have c1 : (255 : Int64).toBitVec = BitVec.ofNat 64 255 := rfl
  have c2 : (255 : Int32).toBitVec = BitVec.ofNat 32 255 := rfl
  rw [Int64.toBitVec_toInt32, Int32.toBitVec_and, Int64.toBitVec_toInt32, Int64.toBitVec_and, Int64.toBitVec_shiftRight, UInt64.toBitVec_toInt64, UInt64.toBitVec_shiftRight, c1, c2]
  rw [BitVec.getLsbD_and, BitVec.getLsbD_signExtend, BitVec.getLsbD_signExtend, BitVec.getLsbD_and, BitVec.sshiftRight_eq', BitVec.getLsbD_sshiftRight, hS]
  rw [BitVec.ushiftRight_eq', BitVec.getLsbD_ushiftRight, hU]
  by_cases q : j < 8
  · have e1 : ¬ 64 ≤ j := by omega
    have e2 : k + j < 64 := by omega
    have e3 : j < 64 := by omega
    have z1 : (BitVec.ofNat 32 255).getLsbD j = true := by
      rw [BitVec.getLsbD_ofNat, show 255 = 2 ^ 8 - 1 from rfl, Nat.testBit_two_pow_sub_one]
      simp [q, hj]
    have z2 : (BitVec.ofNat 64 255).getLsbD j = true := by
      rw [BitVec.getLsbD_ofNat, show 255 = 2 ^ 8 - 1 from rfl, Nat.testBit_two_pow_sub_one]
      simp [q, e3]
    rw [z1, z2]
    simp [hj, e1, e2, e3, Int64.toBitVec_toUInt64]
  · have z1 : (BitVec.ofNat 32 255).getLsbD j = false := by
      rw [BitVec.getLsbD_ofNat, show 255 = 2 ^ 8 - 1 from rfl, Nat.testBit_two_pow_sub_one]
      simp [q]
    have z2 : (BitVec.ofNat 64 255).getLsbD j = false := by
      rw [BitVec.getLsbD_ofNat, show 255 = 2 ^ 8 - 1 from rfl, Nat.testBit_two_pow_sub_one]
      simp [q]
    rw [z1, z2]
    simp [hj, show j < 64 by omega]
theorem fb_ok (w : Int64) {i : Nat} (hi : i < 8) : ∃ b, b < 256 ∧ ((w.toUInt64 >>> ((8 * nI i).toInt64.toUInt64 &&& Int64.toUInt64 63)).toInt64).toInt32 &&& 255 = nI b ∧ ((w >>> ((8 * nI i).toInt64 &&& 63)) &&& (255 : Int64)).toInt32 = nI b := by
  obtain ⟨b, hb, e⟩ := pk_andE ((w.toUInt64 >>> ((8 * nI i).toInt64.toUInt64 &&& Int64.toUInt64 63)).toInt64).toInt32 (m := 255) 8 (by decide)
  refine ⟨b, hb, e, ?_⟩
  rw [← e]
  obtain rfl | rfl | rfl | rfl | rfl | rfl | rfl | rfl : i = 0 ∨ i = 1 ∨ i = 2 ∨ i = 3 ∨ i = 4 ∨ i = 5 ∨ i = 6 ∨ i = 7 := by omega
  · exact fb_eq w _ _ 0 (by decide) (by decide) (by decide)
  · exact fb_eq w _ _ 8 (by decide) (by decide) (by decide)
  · exact fb_eq w _ _ 16 (by decide) (by decide) (by decide)
  · exact fb_eq w _ _ 24 (by decide) (by decide) (by decide)
  · exact fb_eq w _ _ 32 (by decide) (by decide) (by decide)
  · exact fb_eq w _ _ 40 (by decide) (by decide) (by decide)
  · exact fb_eq w _ _ 48 (by decide) (by decide) (by decide)
  · exact fb_eq w _ _ 56 (by decide) (by decide) (by decide)
theorem g_feed {A B : Mm} {sd : Int64} (w : Int64) : ∀ (k f g : Nat) (t : Nat → Nat) (n : Nat) (Mc Mr : Mm), k ≤ 8 → k < f → k < g → DC A t n sd Mc → DR B t n sd Mr → n + k ≤ 1200 → ∃ t' Mc' Mr', rX6_feed_b37 f w (nI k - 1) Mc = some (nI (n + k), Mc') ∧ rX7_feed_b35 g w (nI k - 1) Mr = some (nI (n + k), Mr') ∧ DC A t' (n + k) sd Mc' ∧ DR B t' (n + k) sd Mr' := by
  intro k
  induction k with
  | zero =>
    intro f g t n Mc Mr h8 hf hg hc hr hn
    obtain ⟨f, rfl⟩ : ∃ f', f = f' + 1 := ⟨f - 1, by omega⟩
    obtain ⟨g, rfl⟩ : ∃ g', g = g' + 1 := ⟨g - 1, by omega⟩
    refine ⟨t, Mc, Mr, ?_, ?_, hc, hr⟩
    · show rX6_feed_b37_s (rX6_feed_b37 f) w (nI 0 - 1) Mc = _
      unfold rX6_feed_b37_s
      rw [if_pos (by decide), hc.1.2.2.1]; rfl
    · show rX7_feed_b35_s (rX7_feed_b35 g) w (nI 0 - 1) Mr = _
      unfold rX7_feed_b35_s
      rw [if_pos (by decide), hr.1.2.2.1]; rfl
  | succ k ih =>
    intro f g t n Mc Mr h8 hf hg hc hr hn
    obtain ⟨f, rfl⟩ : ∃ f', f = f' + 1 := ⟨f - 1, by omega⟩
    obtain ⟨g, rfl⟩ : ∃ g', g = g' + 1 := ⟨g - 1, by omega⟩
    obtain ⟨b, hb, b1, b2⟩ := fb_ok w (i := k) (by omega)
    obtain ⟨N1, k1, d1⟩ := c_app hc hb (by omega)
    obtain ⟨N2, k2, d2⟩ := r_lay hr hb (by omega)
    obtain ⟨t', Mc', Mr', e1, e2, h1, h2⟩ := ih f g _ (n + 1) N1 N2 (by omega) (by omega) (by omega) d1 d2 (by omega)
    rw [show n + 1 + k = n + (k + 1) by omega] at e1 e2 h1 h2
    have hp : nI (k + 1) - 1 = nI k := nI_pred k
    have hm : nI k + (-1) = nI k - 1 := by rw [Int32.sub_eq_add_neg]
    refine ⟨t', Mc', Mr', ?_, ?_, h1, h2⟩
    · show rX6_feed_b37_s (rX6_feed_b37 f) w (nI (k + 1) - 1) Mc = _
      unfold rX6_feed_b37_s
      rw [hp, if_neg (nI_pos (by omega)), b1, k1, Option.bind_some, lt_e, hm, e1]
    · show rX7_feed_b35_s (rX7_feed_b35 g) w (nI (k + 1) - 1) Mr = _
      unfold rX7_feed_b35_s
      rw [hp, if_neg (nI_pos (by omega)), b2, k2, Option.bind_some, lt_e, hm, e2]
theorem s_feed {Mc Mr : Mm} (h : JJ Mc Mr) (a : Int32) (w : Int64) : Step2 (rX6_feed a w) (rX7_feed a w) Mc Mr := by
  obtain ⟨t, n, sd, r, rd, hc, hr, h1⟩ := id h
  have t3 := hc.1.2.2.1
  have u3 := hr.1.2.2.1
  have hn := hc.1.1
  have e1 : rX6_feed a w Mc = (if a < 1 then some (-2, Mc) else (if a ≤ 8 then (if nI n + a ≤ 1200 then rX6_feed_b37 FU w (a - 1) Mc else some (-4, Mc)) else some (-2, Mc))) := by
    unfold rX6_feed; rw [t3]; rfl
  have e2 : rX7_feed a w Mr = (bd2 (rX7_in a.toInt64 1 8 Mr) fun r3 M2 => if r3 = 0 then some (-2, M2) else (if M2.1 31 2 + a ≤ 1200 then rX7_feed_b35 FU w (a - 1) M2 else some (-4, M2))) := rfl
  have o1 : (1 : Int32).toInt = 1 := by decide
  have o2 : (8 : Int32).toInt = 8 := by decide
  have o3 : (1 : Int64).toInt = 1 := by decide
  have o4 : (8 : Int64).toInt = 8 := by decide
  by_cases q : a < 1
  · refine ⟨-2, Mc, Mr, by rw [e1, if_pos q], ?_, h⟩
    rw [e2, r_in0 (Or.inl ?_)]
    · rfl
    · rw [Int64.lt_iff_toInt_lt, Int32.toInt_toInt64]
      rw [Int32.lt_iff_toInt_lt] at q
      omega
  by_cases q2 : a ≤ 8
  · have q1 : ¬ a < 0 := by
      rw [Int32.lt_iff_toInt_lt] at q ⊢
      have o5 : (0 : Int32).toInt = 0 := by decide
      omega
    obtain ⟨k, hk, rfl⟩ := nI_of2 (n := 8) o2 q1 q2
    have i1 : rX7_in (nI k).toInt64 1 8 Mr = some (1, Mr) := by
      refine r_in1 ?_ ?_
      · rw [Int64.lt_iff_toInt_lt, Int32.toInt_toInt64]
        rw [Int32.lt_iff_toInt_lt] at q
        omega
      · rw [Int64.lt_iff_toInt_lt, Int32.toInt_toInt64]
        rw [Int32.le_iff_toInt_le] at q2
        omega
    rw [nI_add] at e1
    by_cases q3 : n + k ≤ 1200
    · have q4 : nI (n + k) ≤ (1200 : Int32) := nI_le (a := n + k) (b := 1200) q3 (by decide)
      obtain ⟨t', Mc', Mr', g1, g2, h2, h3⟩ := g_feed (A := Mc) (B := Mr) w k FU FU t n Mc Mr hk (by unfold FU; omega) (by unfold FU; omega) hc.dc hr.dr q3
      refine ⟨_, Mc', Mr', by rw [e1, if_neg q, if_pos q2, if_pos q4, g1], ?_, t', n + k, sd, r, rd, hc.to h2, hr.to h3, h1⟩
      rw [e2, i1, bd2_some, if_neg (by decide), u3, nI_add, if_pos q4, g2]
    · have q4 : ¬ nI (n + k) ≤ (1200 : Int32) := nI_ge (a := 1200) (b := n + k) (by omega) (by omega)
      refine ⟨-4, Mc, Mr, by rw [e1, if_neg q, if_pos q2, if_neg q4], ?_, h⟩
      rw [e2, i1, bd2_some, if_neg (by decide), u3, nI_add, if_neg q4]
  · refine ⟨-2, Mc, Mr, by rw [e1, if_neg q, if_neg q2], ?_, h⟩
    rw [e2, r_in0 (Or.inr ?_)]
    · rfl
    · rw [Int64.lt_iff_toInt_lt, Int32.toInt_toInt64]
      rw [Int32.le_iff_toInt_le] at q2
      omega
