section
variable {t : Nat → Nat} {n mo sp dp : Nat} {d fr e oa fi : Nat} {rp : Int32 → Int32 → Int32 → Int32 → Mm → Option Mm} {nest : Nat → Nat → Nat → Gs → Pr}
theorem e_item {M M1 : Mm} {ends : List Nat} {p : Nat} {g : Gs} {rc : Rc} (B : Bc t n mo sp dp M) (hN : NestOk t n mo sp dp d rp nest) (hON : OkN mo sp nest) (hE : ∀ a b g, b ≤ n → OkG mo sp g g → d + 1 ≤ 8 → (nest a b (d + 1) g).1 = 0 → (nest a b (d + 1) g).2.2.1 = b) (hd : d ≤ 8) (hP : CPk d fr e oa fi ends M) (hV : VW M p g 0 (-1)) (h : CI M M1 g.1 (p + 1) g.2.1 0 (-1)) (hg : OkG mo sp g g) (hoa : oa ≤ g.1.length) (hen : ∀ k, k < ends.length → oa + ends.getD k 0 ≤ g.1.length) (hpe : p < e) (he : e ≤ n) (h6 : 2 * (fi + ends.length) ≤ p) (hI : d = 0 → IV M rc ∧ rc.length < 600) :
    ∃ M', rX4_readItem rp (nI (t p)) (nI p) (20 + d) (nI d) M1 = some M' ∧ ResI d fr e oa fi ends (t p) p g rc M' (aItem nest t mo sp dp e oa d p ends g) ∧ Fm d fi M M' := by
  obtain ⟨b1, b2, b3, b4, b5, -⟩ := id B
  have ho := hg.2.1
  have hc := hg.2.2.2.1
  have tb := b2 p (by omega)
  obtain ⟨p1, p2, p3, p4, p5, p6⟩ := id hP
  have gk : M1.1 (20 + d) = M.1 (20 + d) := h.1 (20 + d) (by omega) (by omega) (by omega) (by omega)
  have hy1 : M1.1 6 1 = nI g.1.length := h.2.2.2.2.2.2.2.1
  have hy2 : M1.1 5 12 = nI g.2.1 := h.2.2.2.2.1
  have kk : ∀ {c : Nat}, c < 300 → (nI (t p) = nI c ↔ t p = c) := fun hc => nI_eq (by omega) (by omega)
  unfold rX4_readItem aItem
  rw [lt_e, lt_e, hy1, hy2, gk, p2, k_1, k_2, k_3, k_4, k_5, k_6, k_7]
  by_cases c1 : t p = 1
  · rw [if_pos ((kk (by decide)).mpr c1), if_pos c1]
    obtain ⟨M2, e2, r2⟩ := e_stored B h hpe he ho hc
    obtain ⟨M', e3, r3, f3⟩ := e_itemR (rp := rp) (k := t p) B hd hP hV hg hoa he (by omega) hI r2 (ok_stored ho hc)
    exact ⟨M', by rw [e2]; exact e3, r3, f3⟩
  rw [if_neg (fun q => c1 ((kk (by decide)).mp q)), if_neg c1]
  by_cases c2 : t p = 2
  · rw [if_pos ((kk (by decide)).mpr c2), if_pos c2]
    obtain ⟨M2, e2, r2⟩ := e_run B h hpe he ho hc
    obtain ⟨M', e3, r3, f3⟩ := e_itemR (rp := rp) (k := t p) B hd hP hV hg hoa he (by omega) hI r2 (ok_run ho hc)
    exact ⟨M', by rw [e2]; exact e3, r3, f3⟩
  rw [if_neg (fun q => c2 ((kk (by decide)).mp q)), if_neg c2]
  by_cases c3 : t p = 3
  · rw [if_pos ((kk (by decide)).mpr c3), if_pos c3]
    obtain ⟨M2, e2, r2⟩ := e_copy B (pk := 20 + d) (by omega) p2 p3 h hpe he ho hoa hc
    obtain ⟨M', e3, r3, f3⟩ := e_itemR (rp := rp) (k := t p) B hd hP hV hg hoa he (by omega) hI r2 (ok_copy ho hc)
    exact ⟨M', by rw [e2]; exact e3, r3, f3⟩
  rw [if_neg (fun q => c3 ((kk (by decide)).mp q)), if_neg c3]
  by_cases c4 : t p = 4
  · rw [if_pos ((kk (by decide)).mpr c4), if_pos c4]
    obtain ⟨M2, M', e2, e3, r3, f3⟩ := e_nest B hN hON hE hd hP hV h hg hoa hpe he h6 hI
    rw [c4]
    exact ⟨M', by rw [e2]; exact e3, r3, f3⟩
  rw [if_neg (fun q => c4 ((kk (by decide)).mp q)), if_neg c4]
  by_cases c5 : t p = 5
  · rw [if_pos ((kk (by decide)).mpr c5), if_pos c5]
    obtain ⟨M2, e2, r2⟩ := e_note B h hpe he ho hc
    obtain ⟨M', e3, r3, f3⟩ := e_itemR (rp := rp) (k := t p) B hd hP hV hg hoa he (by omega) hI r2 (ok_note ho hc)
    exact ⟨M', by rw [e2]; exact e3, r3, f3⟩
  rw [if_neg (fun q => c5 ((kk (by decide)).mp q)), if_neg c5]
  by_cases c6 : t p = 6
  · rw [if_pos ((kk (by decide)).mpr c6), if_pos c6]
    obtain ⟨M2, e2, r2⟩ := e_again B (pk := 20 + d) (by omega) (by omega) p2 p3 p4 p5 (by omega) (fun k hk => ⟨p6 k hk, hen k hk⟩) h hpe he ho hc
    obtain ⟨M', e3, r3, f3⟩ := e_itemR (rp := rp) (k := t p) B hd hP hV hg hoa he (by omega) hI r2 (ok_again ho hc)
    exact ⟨M', by rw [e2]; exact e3, r3, f3⟩
  rw [if_neg (fun q => c6 ((kk (by decide)).mp q)), if_neg c6]
  by_cases c7 : t p = 7
  · rw [if_pos ((kk (by decide)).mpr c7), if_pos c7]
    obtain ⟨r, M2, M3, e2, -, g2, e3, r3⟩ := e_coded B h hpe he ho hc
    obtain ⟨M', e4, r4, f4⟩ := e_itemR (rp := rp) (k := t p) B hd hP hV hg hoa he (by omega) hI r3 (ok_coded ho hc)
    refine ⟨M', ?_, r4, f4⟩
    rw [e2, bd2_some, g2 (20 + d) (by omega), p2, e3]
    exact e4
  rw [if_neg (fun q => c7 ((kk (by decide)).mp q)), if_neg c7]
  obtain ⟨M2, e2, h2⟩ := ev_fail (c := 2) (w := nI p) h (by decide) (by decide)
  obtain ⟨M', e3, r3, f3⟩ := e_itemR (rp := rp) (k := t p) B hd hP hV hg hoa he (by omega) hI (RS.no (c := 2) (w := p) h2 (by decide)) (OkR.fll (e := e) (p := p) ho hc (by decide) (by decide))
  exact ⟨M', by rw [e2]; exact e3, r3, f3⟩
theorem b100_stop {M : Mm} {p fc i f : Nat} {g : Gs} {fp : Int32} {x2 x3 : Int32} {k5 : Nat} (hV : VW M p g fc fp) (h0 : fc ≠ 0) (h1 : fc < 100) (hi : i ≤ 1200) : rX4_readPack_b109 rp (f + 1) x2 x3 k5 (nI i) M = some M := by
  show rX4_readPack_b109_s rp (rX4_readPack_b109 rp f) x2 x3 k5 (nI i) M = _
  unfold rX4_readPack_b109_s
  rw [if_neg (by rw [k_1200, nI_ltI (by omega) (by omega)]; omega), hV.2.2.2.2.1, if_neg (nI_ne0 (by omega) (by omega))]
theorem lp_pack (hN : NestOk t n mo sp dp d rp nest) (hON : OkN mo sp nest) (hE : ∀ a b g, b ≤ n → OkG mo sp g g → d + 1 ≤ 8 → (nest a b (d + 1) g).1 = 0 → (nest a b (d + 1) g).2.2.1 = b) (hd : d ≤ 8) (he : e ≤ n) : ∀ (f fuel i p : Nat) (ends : List Nat) (g : Gs) (rc : Rc) (M : Mm), e < p + f → e + 1 < p + fuel → 2 * i ≤ p → p ≤ e → 2 * (fi + ends.length) ≤ p → fr ≤ p → Bc t n mo sp dp M → VW M p g 0 (-1) → CPk d fr e oa fi ends M → OkG mo sp g g → oa ≤ g.1.length → (∀ k, k < ends.length → oa + ends.getD k 0 ≤ g.1.length) → (d = 0 → IV M rc ∧ 2 * rc.length ≤ p) →
    ∃ M', rX4_readPack_b109 rp fuel (nI e) (nI d) (20 + d) (nI i) M = some M' ∧ ResP d M' (aLoop nest t mo sp dp fr e oa d f p ends g rc) ∧ Fm d fi M M' := by
  intro f
  induction f with
  | zero => intro fuel i p ends g rc M h1 h2 h3 h4; omega
  | succ f ih =>
    intro fuel i p ends g rc M h1 h2 h3 h4 h5 hfr B hV hP hg hoa hen hI
    obtain ⟨b1, b2, b3, b4, b5, b6, b7, b8, b9, b10⟩ := id B
    obtain ⟨f', rfl⟩ : ∃ f', fuel = f' + 1 := ⟨fuel - 1, by omega⟩
    have hu : rX4_readPack_b109 rp (f' + 1) (nI e) (nI d) (20 + d) (nI i) M = rX4_readPack_b109_s rp (rX4_readPack_b109 rp f') (nI e) (nI d) (20 + d) (nI i) M := rfl
    unfold rX4_readPack_b109_s rX4_readPack_b166 at hu
    rw [if_neg (by rw [k_1200, nI_ltI (by omega) (by omega)]; omega), hV.2.2.2.2.1, if_pos (show nI 0 = 0 from rfl), lt_e, hV.1] at hu
    rw [aLoop]
    by_cases c1 : e ≤ p
    · obtain ⟨M1, e1, k1⟩ := ev_next0 hV.ci c1 (by omega) (by omega) (by decide)
      obtain ⟨f'', rfl⟩ : ∃ f'', f' = f'' + 1 := ⟨f' - 1, by omega⟩
      have v1 := k1.vw hV.2.2.1 hV.2.2.2.1
      rw [e1, bd2_some, if_neg (by decide), if_pos rfl, lt_e, k_1, nI_add, b100_stop (rp := rp) v1 (by decide) (by decide) (by omega)] at hu
      refine ⟨M1, hu, ?_, k1.fm⟩
      rw [if_pos c1]
      refine ⟨⟨p, fun q => (by cases q), v1⟩, fun h0 => ?_⟩
      unfold IV
      rw [k1.1 9 (by decide) (by decide) (by decide) (by decide), k1.1 10 (by decide) (by decide) (by decide) (by decide), k1.1 11 (by decide) (by decide) (by decide) (by decide), k1.1 12 (by decide) (by decide) (by decide) (by decide), k1.1 13 (by decide) (by decide) (by decide) (by decide), k1.1 14 (by decide) (by decide) (by decide) (by decide)]
      exact (hI h0).1
    obtain ⟨M1, e1, k1⟩ := ev_next1 B hV.ci (e := e) (by omega) he
    have tb := b2 p (by omega)
    rw [e1, bd2_some] at hu
    rw [if_neg c1]
    by_cases c2 : t p = 0
    · rw [if_pos (by rw [c2]; rfl)] at hu
      rw [if_pos c2]
      -- the check
      have fin : ∀ {M2 : Mm} {p' c : Nat} {w : Int32} (pp : Nat), rX4_readCheck (20 + d) M1 = some M2 → CI M M2 g.1 p' g.2.1 c w → (c = 0 → p' = pp) → ∃ M', rX4_readPack_b109 rp (f' + 1) (nI e) (nI d) (20 + d) (nI i) M = some M' ∧ ResP d M' (c, w, pp, g, rc) ∧ Fm d fi M M' := by
        intro M2 p' c w pp e2 k2 hcp
        refine ⟨M2, by rw [hu, e2]; rfl, ⟨⟨p', hcp, k2.vw hV.2.2.1 hV.2.2.2.1⟩, fun h0 => ?_⟩, k2.fm⟩
        unfold IV
        rw [k2.1 9 (by decide) (by decide) (by decide) (by decide), k2.1 10 (by decide) (by decide) (by decide) (by decide), k2.1 11 (by decide) (by decide) (by decide) (by decide), k2.1 12 (by decide) (by decide) (by decide) (by decide), k2.1 13 (by decide) (by decide) (by decide) (by decide), k2.1 14 (by decide) (by decide) (by decide) (by decide)]
        exact (hI h0).1
      have gk : ∀ {M' : Mm} {out : List Nat} {p co fc : Nat} {fp : Int32}, CI M M' out p co fc fp → M'.1 (20 + d) = M.1 (20 + d) := fun h => h.1 (20 + d) (by omega) (by omega) (by omega) (by omega)
      have hk : rX4_readCheck (20 + d) M1 = bd2 (rX4_next (nI e) M1) fun r4 M3 => if r4 = -1 then some M3 else (bd2 (rX0_checkOf 1 1200 1200 (M3.1 (20 + d) 0) (nI (p + 1)) M3) fun r8 M7 => if r4 = r8 then (if M7.1 (20 + d) 1 ≤ M7.1 5 9 then some M7 else (Option.bind (rX4_fail 10 (M7.1 5 9) M7) fun M12 => some M12)) else (Option.bind (rX4_fail 9 (nI (p + 1)) M7) fun M14 => some M14)) := by
        unfold rX4_readCheck
        rw [lt_e, k1.2.2.2.1, gk k1, hP.2.1]
      by_cases c3 : e ≤ p + 1
      · obtain ⟨M2, e2, k2⟩ := ev_next0 k1 c3 (by omega) (by omega) (by decide)
        rw [if_pos c3]
        exact fin 0 (by rw [hk, e2]; rfl) k2 (fun q => (by cases q))
      obtain ⟨M2, e2, k2⟩ := ev_next1 B k1 (e := e) (by omega) he
      have tb2 := b2 (p + 1) (by omega)
      have hs := sm_le (t := t) (a := fr) (p + 1 - fr) (fun i hi => b2 _ (by omega))
      have hm8 : sm t fr (p + 1 - fr) % 256 < 256 := Nat.mod_lt _ (by decide)
      obtain ⟨t1, t2⟩ := k2.tape B
      rw [e2, bd2_some, if_neg (nI_nm (by omega)), gk k2, hP.1, e_chk b1 b2 t1 t2 (by omega) (by omega), bd2_some] at hk
      rw [if_neg c3]
      by_cases c4 : t (p + 1) = sm t fr (p + 1 - fr) % 256
      · rw [if_pos (by rw [c4]), gk k2, hP.2.1, k2.2.2.2.1] at hk
        rw [if_neg (fun q => q c4)]
        by_cases c5 : p + 2 < e
        · obtain ⟨M3, e3, k3⟩ := ev_fail (c := 10) (w := nI (p + 2)) k2 (by decide) (by decide)
          rw [if_pos c5]
          exact fin 0 (by rw [hk, if_neg (by rw [nI_leI (by omega) (by omega)]; omega), k_10, show p + 1 + 1 = p + 2 from rfl, e3]; rfl) k3 (fun q => (by cases q))
        · rw [if_neg c5]
          exact fin (p + 2) (by rw [hk, if_pos ((nI_leI (by omega) (by omega)).mpr (by omega))]) k2 (fun _ => rfl)
      · obtain ⟨M3, e3, k3⟩ := ev_fail (c := 9) (w := nI (p + 1)) k2 (by decide) (by decide)
        rw [if_pos c4]
        exact fin 0 (by rw [hk, if_neg (by rw [nI_eq (by omega) (by omega)]; exact c4), k_9, e3]; rfl) k3 (fun q => (by cases q))
    · rw [if_neg (nI_ne0 (by omega) (by omega)), if_neg (nI_nm (by omega))] at hu
      rw [if_neg c2]
      obtain ⟨M2, e2, r2, f2⟩ := e_item (rc := rc) B hN hON hE hd hP hV k1 hg hoa hen (by omega) he h5 (fun h0 => ⟨(hI h0).1, by have := (hI h0).2; omega⟩)
      obtain ⟨i1, i2, i3⟩ := ok_item (t := t) (e := e) (oa := oa) (dep := d) (p := p) (ends := ends) hON hg b5
      rw [e2, Option.bind_some, lt_e, k_1, nI_add] at hu
      generalize aItem nest t mo sp dp e oa d p ends g = R at r2 i1 i2 i3 ⊢
      obtain ⟨r3, r4⟩ := r2
      by_cases c3 : R.1 = 0
      · rw [if_pos c3]
        obtain ⟨q1, q2, q3⟩ := r3 c3
        obtain ⟨j1, j2, j3⟩ := i3 c3
        obtain ⟨M', e3, s3, f3⟩ := ih f' (i + 1) R.2.2.1 (ends ++ [R.2.2.2.1.length - oa]) R.2.2.2 (aRec d (t p) p g R.2.2.2 R.2.2.1 rc) M2 (by omega) (by omega) (by omega) j2 (by simp; omega) (by omega) (B.mv f2) q2 q1 i1.own (Nat.le_trans hoa i1.1) (fun k hk => by
          simp only [List.length_append, List.length_cons, List.length_nil] at hk
          have := i1.1
          rw [getD_app]
          by_cases h7 : k < ends.length
          · rw [if_pos h7]; have := hen k h7; omega
          · rw [if_neg h7, if_pos (by omega)]; omega) (fun h0 => ⟨q3 h0, by
            have := (hI h0).2
            unfold aRec
            rw [if_pos h0]
            simp; omega⟩)
        exact ⟨M', hu.trans e3, s3, f2.tr f3⟩
      · rw [if_neg c3]
        obtain ⟨⟨p', q1⟩, q2⟩ := r4 c3
        obtain ⟨f'', rfl⟩ : ∃ f'', f' = f'' + 1 := ⟨f' - 1, by omega⟩
        rw [b100_stop (rp := rp) q1 c3 i2 (by omega)] at hu
        exact ⟨M2, hu, ⟨⟨p', fun q => absurd q c3, q1⟩, q2⟩, f2⟩
end
