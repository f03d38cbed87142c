section
variable {t : Nat → Nat} {n mo sp dp : Nat}
theorem e_mark {M : Mm} {p e k : Nat} {g : Gs} (B : Bc t n mo sp dp M) (hV : VW M p g 0 (-1)) (he : e ≤ n) (hp : p < 100000) (hk : k < 256) : ∃ M' p', rX4_readMark (nI k) (nI e) M = some M' ∧ CI M M' g.1 p' g.2.1 (if e ≤ p then 3 else if t p ≠ k then 1 else 0) (if e ≤ p then nI e else if t p ≠ k then nI p else -1) ∧ (p < e → p' = p + 1) := by
  obtain ⟨b1, b2, -⟩ := id B
  unfold rX4_readMark
  rw [hV.2.2.2.2.1, if_pos (show nI 0 = 0 from rfl)]
  by_cases c1 : e ≤ p
  · obtain ⟨M1, e1, k1⟩ := ev_next0 hV.ci c1 (by omega) hp (by decide)
    refine ⟨M1, p, by rw [e1]; rfl, ?_, fun q => by omega⟩
    rw [if_pos c1, if_pos c1]; exact k1
  · obtain ⟨M1, e1, k1⟩ := ev_next1 B hV.ci (e := e) (by omega) he
    have tb := b2 p (by omega)
    rw [e1, bd2_some, if_neg (nI_nm (by omega)), if_neg c1, if_neg c1]
    by_cases c2 : t p = k
    · rw [if_pos (by rw [c2]), if_neg (fun q => q c2), if_neg (fun q => q c2)]
      exact ⟨M1, p + 1, rfl, k1, fun _ => rfl⟩
    · obtain ⟨M2, e2, k2⟩ := ev_fail (c := 1) (w := nI p) k1 (by decide) (by decide)
      rw [if_neg (by rw [nI_eq (by omega) (by omega)]; exact c2), if_pos c2, if_pos c2, k1.2.2.2.1, k_1, pk_sub (by omega), Nat.add_sub_cancel]
      exact ⟨M2, p + 1, by rw [e2]; rfl, k2, fun _ => rfl⟩
theorem e_markF {M : Mm} {a b : Int32} {fc : Nat} (h : M.1 5 15 = nI fc) (h0 : fc ≠ 0) (h1 : fc < 100) : rX4_readMark a b M = some M := by
  unfold rX4_readMark
  rw [h, if_neg (nI_ne0 (by omega) (by omega))]
theorem e_pack : ∀ (k d fr e fi p0 : Nat) (g : Gs) (rc : Rc) (A : Mm), 9 ≤ d + k → d ≤ 8 → Bc t n mo sp dp A → VW A p0 g 0 (-1) → fr ≤ e → e ≤ n → 2 * fi ≤ fr → OkG mo sp g g → (d = 0 → IV A rc ∧ rc.length = 0) →
    ∃ M', rX4_readPack k (nI fr) (nI e) (nI d) (nI fi) A = some M' ∧ ResP d M' (aPack t mo sp dp k fr e d g rc) ∧ Fm d fi A M' := by
  intro k
  induction k with
  | zero => intro d fr e fi p0 g rc A h1 h2; omega
  | succ k ih =>
    intro d fr e fi p0 g rc A h1 hd B hV hfe he hfi hg hI
    obtain ⟨b1, b2, b3, b4, b5, -⟩ := id B
    have ho := hg.2.1
    have hc := hg.2.2.2.1
    have hIk : ∀ {M' : Mm} {out : List Nat} {p co fc : Nat} {fp : Int32}, CI A M' out p co fc fp → d = 0 → IV M' rc := fun k1 h0 => by
      unfold IV
      rw [k1.1 9 (by decide) (by decide) (by decide) (by decide), k1.1 10 (by decide) (by decide) (by decide) (by decide), k1.1 11 (by decide) (by decide) (by decide) (by decide), k1.1 12 (by decide) (by decide) (by decide) (by decide), k1.1 13 (by decide) (by decide) (by decide) (by decide), k1.1 14 (by decide) (by decide) (by decide) (by decide)]
      exact (hI h0).1
    have hu : rX4_readPack (k + 1) (nI fr) (nI e) (nI d) (nI fi) A = rX4_readPack_s (rX4_readPack k) (nI fr) (nI e) (nI d) (nI fi) A := rfl
    unfold rX4_readPack_s at hu
    obtain ⟨M6, e6, k6⟩ := ev_pay B hV.ci fr 0 4 (by omega) (by omega) (by decide) (by decide)
    rw [if_neg (nI_pos (by omega)), if_pos ((nI_ltI (by omega) (by omega)).mpr (by omega)), if_neg (show ¬ (nI d < 0 ∨ 9 ≤ (nI d).toNatClampNeg) by rw [nI_clamp (by omega)]; exact fun q => q.elim (nI_pos (by omega)) (by omega)), show rX4_pay (nI fr) 0 4 A = rX4_pay (nI fr) (nI 0) (nI 4) A from rfl, e6, bd2_some] at hu
    rw [aPack]
    by_cases c1 : sp < g.2.1 + 4
    · have hap : aPay mo sp g.1.length g.2.1 0 4 = 12 := by unfold aPay; rw [if_neg (by omega), if_pos c1]
      rw [hap] at k6 hu
      refine ⟨M6, by rw [hu]; rfl, ?_, k6.fm⟩
      rw [if_pos c1]
      exact ⟨⟨p0, fun q => (by cases q), k6.vw hV.2.2.1 hV.2.2.2.1⟩, hIk k6⟩
    have hap : aPay mo sp g.1.length g.2.1 0 4 = 0 := by unfold aPay; rw [if_neg (by omega), if_neg c1]
    rw [hap] at k6 hu
    simp only [if_true] at k6
    have v6 : VW M6 p0 (g.1, g.2.1 + 4, g.2.2.1, g.2.2.2) 0 (-1) := k6.vw hV.2.2.1 hV.2.2.2.1
    obtain ⟨w1, w2, w3, w4, w5, w6, w7, w8⟩ := v6
    have w2 : M6.1 5 12 = nI (g.2.1 + 4) := w2
    have w3 : M6.1 5 13 = nI g.2.2.1 := w3
    have w4 : M6.1 5 14 = nI g.2.2.2 := w4
    have w7 : M6.1 6 1 = nI g.1.length := w7
    have w8 : ∀ i, i < g.1.length → M6.1 7 i = nI (g.1.getD i 0) := w8
    rw [if_pos rfl, if_neg (by decide), lt_e, lt_e, w4, k_1, nI_add, nI_clamp (by omega)] at hu
    rw [if_neg c1]
    have hbg := hg.2.2.2.2.1
    have hdd := hg.2.2.2.2.2
    have q13 : (st M6 5 14 (nI (g.2.2.2 + 1))).1 5 13 = nI g.2.2.1 := by rw [st_eq, upd_n (by decide)]; exact w3
    have qmax : (if nI g.2.2.1 < nI d then nI d else nI g.2.2.1) = nI (if g.2.2.1 < d then d else g.2.2.1) := by
      by_cases c2 : g.2.2.1 < d
      · rw [if_pos ((nI_ltI (by omega) (by omega)).mpr c2), if_pos c2]
      · rw [if_neg (by rw [nI_ltI (by omega) (by omega)]; exact c2), if_neg c2]
    rw [q13, qmax] at hu
    obtain ⟨M10, hM10⟩ : ∃ M10, M10 = st (st M6 5 14 (nI (g.2.2.2 + 1))) 5 13 (nI (if g.2.2.1 < d then d else g.2.2.1)) := ⟨_, rfl⟩
    have q61 : M10.1 6 1 = nI g.1.length := by rw [hM10, st_ne (by decide), st_ne (by decide)]; exact w7
    unfold rX3_begin at hu
    simp only [lt_e, Option.bind_some] at hu
    rw [show st (st M6 5 14 (nI (g.2.2.2 + 1))) 5 13 (nI (if g.2.2.1 < d then d else g.2.2.1)) = M10 from hM10.symm, q61] at hu
    obtain ⟨M14, hM14⟩ : ∃ M14, M14 = st (st (st (st (st (st M10 (20 + d) 0 (nI fr)) (20 + d) 1 (nI e)) (20 + d) 2 (nI g.1.length)) (20 + d) 3 (nI fi)) (20 + d) 4 0) 5 9 (nI fr) := ⟨_, rfl⟩
    rw [← hM14] at hu
    -- the state behind it
    have hc14 : ∀ c, c ≠ 5 → c ≠ 20 + d → M14.1 c = M6.1 c := fun c a b => by rw [hM14, hM10, st_ne a, st_ne b, st_ne b, st_ne b, st_ne b, st_ne b, st_ne a, st_ne a]
    have h514 : M14.1 5 = upd (upd (upd (M6.1 5) 14 (nI (g.2.2.2 + 1))) 13 (nI (if g.2.2.1 < d then d else g.2.2.1))) 9 (nI fr) := by
      rw [hM14, st_eq, st_ne (by omega), st_ne (by omega), st_ne (by omega), st_ne (by omega), st_ne (by omega), hM10, st_eq, st_eq]
    have v14 : VW M14 fr (aG1 d g) 0 (-1) := by
      unfold VW
      rw [h514, hc14 6 (by decide) (by omega), hc14 7 (by decide) (by omega)]
      refine ⟨by rw [upd_s], ?_, ?_, ?_, ?_, ?_, w7, w8⟩
      · rw [upd_n (by decide), upd_n (by decide), upd_n (by decide)]; exact w2
      · rw [upd_n (by decide), upd_s]; rfl
      · rw [upd_n (by decide), upd_n (by decide), upd_s]; rfl
      · rw [upd_n (by decide), upd_n (by decide), upd_n (by decide)]; exact w5
      · rw [upd_n (by decide), upd_n (by decide), upd_n (by decide)]; exact w6
    have f14 : Fm d fi A M14 := by
      have f6 : Fm d fi A M6 := k6.fm
      refine f6.tr ⟨fun c a b q f gg hh => hc14 c a (by omega), fun j _ => by rw [hc14 29 (by decide) (by omega)], fun _ c a b => hc14 c (by omega) (by omega), fun j hj => ?_, ?_⟩
      · rw [h514, upd_n (by omega), upd_n (by omega), upd_n (by omega)]
      · rw [hM14, hM10]; rfl
    have p14 : CPk d fr e g.1.length fi [] M14 := by
      have hpk : M14.1 (20 + d) = upd (upd (upd (upd (upd (M10.1 (20 + d)) 0 (nI fr)) 1 (nI e)) 2 (nI g.1.length)) 3 (nI fi)) 4 0 := by
        rw [hM14, st_ne (by omega), st_eq, st_eq, st_eq, st_eq, st_eq]
      unfold CPk
      rw [hpk]
      exact ⟨by simp [upd], by simp [upd], by simp [upd], by simp [upd], by rw [upd_s]; rfl, fun k hk => (by cases hk)⟩
    have hI14 : d = 0 → IV M14 rc := fun h0 => by
      unfold IV
      rw [hc14 9 (by decide) (by omega), hc14 10 (by decide) (by omega), hc14 11 (by decide) (by omega), hc14 12 (by decide) (by omega), hc14 13 (by decide) (by omega), hc14 14 (by decide) (by omega)]
      exact hIk k6 h0
    have hg14 : OkG mo sp (aG1 d g) (aG1 d g) := by
      refine ⟨Nat.le_refl _, ho, Nat.le_refl _, by show g.2.1 + 4 ≤ sp; omega, by show 4 * (g.2.2.2 + 1) ≤ g.2.1 + 4; omega, ?_⟩
      show (if g.2.2.1 < d then d else g.2.2.1) ≤ 8
      split <;> omega
    have B14 := B.mv f14
    -- a fault in the marks
    have stop : ∀ {M' : Mm} {p' c : Nat} {w : Int32}, CI M14 M' g.1 p' (g.2.1 + 4) c w → c ≠ 0 → rX4_readPack (k + 1) (nI fr) (nI e) (nI d) (nI fi) A = some M' → ∃ M', rX4_readPack (k + 1) (nI fr) (nI e) (nI d) (nI fi) A = some M' ∧ ResP d M' (c, w, 0, aG1 d g, rc) ∧ Fm d fi A M' := by
      intro M' p' c w k1 hc0 e1
      refine ⟨M', e1, ⟨⟨p', fun q => absurd q hc0, k1.vw v14.2.2.1 v14.2.2.2.1⟩, fun h0 => ?_⟩, f14.tr k1.fm⟩
      unfold IV
      rw [k1.1 9 (by decide) (by decide) (by decide) (by decide), k1.1 10 (by decide) (by decide) (by decide) (by decide), k1.1 11 (by decide) (by decide) (by decide) (by decide), k1.1 12 (by decide) (by decide) (by decide) (by decide), k1.1 13 (by decide) (by decide) (by decide) (by decide), k1.1 14 (by decide) (by decide) (by decide) (by decide)]
      exact hI14 h0
    obtain ⟨M15, p15, e15, k15, g15⟩ := e_mark B14 v14 (e := e) (k := 80) he (by omega) (by decide)
    rw [k_80, e15, Option.bind_some] at hu
    by_cases c2 : e ≤ fr
    · rw [if_pos c2]
      rw [if_pos c2, if_pos c2] at k15
      have h15 := k15.2.2.2.2.2.1
      obtain ⟨FF, hFF⟩ : ∃ FF, FU = FF + 1 := ⟨99999, rfl⟩
      refine stop k15 (by decide) ?_
      rw [hu, e_markF h15 (by decide) (by decide), Option.bind_some, hFF, show (0 : Int32) = nI 0 from rfl]
      exact b100_stop (k15.vw v14.2.2.1 v14.2.2.2.1) (by decide) (by decide) (by decide)
    rw [if_neg c2, if_neg c2] at k15
    rw [if_neg c2]
    by_cases c3 : t fr = 80
    · rw [if_neg (fun q => q c3), if_neg (fun q => q c3)] at k15
      rw [if_neg (fun q => q c3)]
      have hp15 := g15 (by omega)
      subst hp15
      have v15 : VW M15 (fr + 1) (aG1 d g) 0 (-1) := k15.vw v14.2.2.1 v14.2.2.2.1
      have f15 : Fm d fi A M15 := f14.tr k15.fm
      have B15 := B.mv f15
      obtain ⟨M16, p16, e16, k16, g16⟩ := e_mark B15 v15 (e := e) (k := 75) he (by omega) (by decide)
      rw [k_75, e16, Option.bind_some] at hu
      have stop2 : ∀ {c : Nat} {w : Int32}, CI M15 M16 g.1 p16 (g.2.1 + 4) c w → c ≠ 0 → c < 100 → ∃ M', rX4_readPack (k + 1) (nI fr) (nI e) (nI d) (nI fi) A = some M' ∧ ResP d M' (c, w, 0, aG1 d g, rc) ∧ Fm d fi A M' := by
        intro c w k1 hc0 hc1
        obtain ⟨FF, hFF⟩ : ∃ FF, FU = FF + 1 := ⟨99999, rfl⟩
        refine ⟨M16, ?_, ⟨⟨p16, fun q => absurd q hc0, k1.vw v15.2.2.1 v15.2.2.2.1⟩, fun h0 => ?_⟩, f15.tr k1.fm⟩
        · rw [hu, hFF, show (0 : Int32) = nI 0 from rfl]
          exact b100_stop (k1.vw v15.2.2.1 v15.2.2.2.1) hc0 hc1 (by decide)
        · unfold IV
          rw [k1.1 9 (by decide) (by decide) (by decide) (by decide), k1.1 10 (by decide) (by decide) (by decide) (by decide), k1.1 11 (by decide) (by decide) (by decide) (by decide), k1.1 12 (by decide) (by decide) (by decide) (by decide), k1.1 13 (by decide) (by decide) (by decide) (by decide), k1.1 14 (by decide) (by decide) (by decide) (by decide), k15.1 9 (by decide) (by decide) (by decide) (by decide), k15.1 10 (by decide) (by decide) (by decide) (by decide), k15.1 11 (by decide) (by decide) (by decide) (by decide), k15.1 12 (by decide) (by decide) (by decide) (by decide), k15.1 13 (by decide) (by decide) (by decide) (by decide), k15.1 14 (by decide) (by decide) (by decide) (by decide)]
          exact hI14 h0
      by_cases c4 : e ≤ fr + 1
      · rw [if_pos c4]
        rw [if_pos c4, if_pos c4] at k16
        exact stop2 k16 (by decide) (by decide)
      rw [if_neg c4, if_neg c4] at k16
      rw [if_neg c4]
      by_cases c5 : t (fr + 1) = 75
      · rw [if_neg (fun q => q c5), if_neg (fun q => q c5)] at k16
        rw [if_neg (fun q => q c5)]
        have hp16 := g16 (by omega)
        subst hp16
        have v16 : VW M16 (fr + 2) (aG1 d g) 0 (-1) := k16.vw v15.2.2.1 v15.2.2.2.1
        have f16 : Fm d fi A M16 := f15.tr k16.fm
        have p16' : CPk d fr e g.1.length fi [] M16 := by
          unfold CPk
          rw [k16.1 (20 + d) (by omega) (by omega) (by omega) (by omega), k15.1 (20 + d) (by omega) (by omega) (by omega) (by omega)]
          exact ⟨p14.1, p14.2.1, p14.2.2.1, p14.2.2.2.1, p14.2.2.2.2.1, fun k hk => (by cases hk)⟩
        obtain ⟨M', e17, r17, f17⟩ := lp_pack (fr := fr) (oa := g.1.length) (fi := fi) (nest := fun a b c d => aPack t mo sp dp k a b c d []) (rp := rX4_readPack k) (fun fr e fi p0 g A B hV h3 h4 h5 h6 h7 => ih (d + 1) fr e fi p0 g [] A (by omega) h7 B hV h3 h4 h5 h6 (fun q => absurd q (by omega))) (ok_nest b5 k) (fun a b g hb hg' hd' h => by
          obtain ⟨k', rfl⟩ : ∃ k', k = k' + 1 := ⟨k - 1, by omega⟩
          exact aPack_e b5 k' a b (d + 1) g [] hg' hd' (by omega) h) hd he 1300 FU 0 (fr + 2) [] (aG1 d g) rc M16 (by omega) (by unfold FU; omega) (by omega) (by omega) (by simp; omega) (by omega) (B.mv f16) v16 p16' hg14 (Nat.le_refl _) (fun k hk => (by cases hk)) (fun h0 => ⟨by
            unfold IV
            rw [k16.1 9 (by decide) (by decide) (by decide) (by decide), k16.1 10 (by decide) (by decide) (by decide) (by decide), k16.1 11 (by decide) (by decide) (by decide) (by decide), k16.1 12 (by decide) (by decide) (by decide) (by decide), k16.1 13 (by decide) (by decide) (by decide) (by decide), k16.1 14 (by decide) (by decide) (by decide) (by decide), k15.1 9 (by decide) (by decide) (by decide) (by decide), k15.1 10 (by decide) (by decide) (by decide) (by decide), k15.1 11 (by decide) (by decide) (by decide) (by decide), k15.1 12 (by decide) (by decide) (by decide) (by decide), k15.1 13 (by decide) (by decide) (by decide) (by decide), k15.1 14 (by decide) (by decide) (by decide) (by decide)]
            exact hI14 h0, by have := (hI h0).2; omega⟩)
        exact ⟨M', by rw [hu]; exact e17, r17, f16.tr f17⟩
      · rw [if_pos c5, if_pos c5] at k16
        rw [if_pos c5]
        exact stop2 k16 (by decide) (by decide)
    · rw [if_pos c3, if_pos c3] at k15
      rw [if_pos c3]
      have h15 := k15.2.2.2.2.2.1
      obtain ⟨FF, hFF⟩ : ∃ FF, FU = FF + 1 := ⟨99999, rfl⟩
      refine stop k15 (by decide) ?_
      rw [hu, e_markF h15 (by decide) (by decide), Option.bind_some, hFF, show (0 : Int32) = nI 0 from rfl]
      exact b100_stop (k15.vw v14.2.2.1 v14.2.2.2.1) (by decide) (by decide) (by decide)
end
