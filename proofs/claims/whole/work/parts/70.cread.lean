theorem aLoop_e {mo sp dp fr e oa dep : Nat} {t : Nat → Nat} {nest : Nat → Nat → Nat → Gs → Pr} (hN : OkN mo sp nest) (hdp : dp ≤ 8) : ∀ (f p : Nat) (ends : List Nat) (g : Gs) (rc : Rc), OkG mo sp g g → p ≤ e → e < p + f → (aLoop nest t mo sp dp fr e oa dep f p ends g rc).1 = 0 → (aLoop nest t mo sp dp fr e oa dep f p ends g rc).2.2.1 = e
  | 0, p, ends, g, rc, hg, hp, hf, h => by omega
  | f + 1, p, ends, g, rc, hg, hp, hf, h => by
    rw [aLoop] at h ⊢
    by_cases h1 : e ≤ p
    · rw [if_pos h1] at h; cases h
    rw [if_neg h1] at h ⊢
    by_cases h2 : t p = 0
    · rw [if_pos h2] at h ⊢
      by_cases h3 : e ≤ p + 1
      · rw [if_pos h3] at h; cases h
      rw [if_neg h3] at h ⊢
      by_cases h4 : t (p + 1) ≠ sm t fr (p + 1 - fr) % 256
      · rw [if_pos h4] at h; cases h
      rw [if_neg h4] at h ⊢
      by_cases h5 : p + 2 < e
      · rw [if_pos h5] at h; cases h
      rw [if_neg h5]
      show p + 2 = e
      omega
    rw [if_neg h2] at h ⊢
    obtain ⟨i1, i2, i3⟩ := ok_item (t := t) (e := e) (oa := oa) (dep := dep) (p := p) (ends := ends) hN hg hdp
    by_cases h3 : (aItem nest t mo sp dp e oa dep p ends g).1 = 0
    · rw [if_pos h3] at h ⊢
      obtain ⟨j1, j2, j3⟩ := i3 h3
      exact aLoop_e hN hdp f _ _ _ _ i1.own j2 (by omega) h
    · rw [if_neg h3] at h
      exact absurd h h3
theorem aPack_e {mo sp dp : Nat} {t : Nat → Nat} (hdp : dp ≤ 8) (k fr e dep : Nat) (g : Gs) (rc : Rc) (hg : OkG mo sp g g) (hd : dep ≤ 8) (he : e ≤ 1200) (h : (aPack t mo sp dp (k + 1) fr e dep g rc).1 = 0) : (aPack t mo sp dp (k + 1) fr e dep g rc).2.2.1 = e := by
  rw [aPack] at h ⊢
  by_cases h0 : sp < g.2.1 + 4
  · rw [if_pos h0] at h; cases h
  rw [if_neg h0] at h ⊢
  by_cases h1 : e ≤ fr
  · rw [if_pos h1] at h; cases h
  rw [if_neg h1] at h ⊢
  by_cases h2 : t fr ≠ 80
  · rw [if_pos h2] at h; cases h
  rw [if_neg h2] at h ⊢
  by_cases h3 : e ≤ fr + 1
  · rw [if_pos h3] at h; cases h
  rw [if_neg h3] at h ⊢
  by_cases h4 : t (fr + 1) ≠ 75
  · rw [if_pos h4] at h; cases h
  rw [if_neg h4] at h ⊢
  have hg1 : OkG mo sp (aG1 dep g) (aG1 dep g) := by
    obtain ⟨a1, a2, a3, a4, a5, a6⟩ := hg
    refine ⟨Nat.le_refl _, a2, Nat.le_refl _, by show g.2.1 + 4 ≤ sp; omega, by show 4 * (g.2.2.2 + 1) ≤ g.2.1 + 4; omega, ?_⟩
    show (if g.2.2.1 < dep then dep else g.2.2.1) ≤ 8
    split <;> omega
  exact aLoop_e (ok_nest hdp k) hdp 1300 (fr + 2) [] _ rc hg1 (by omega) (by omega) h
section
variable {t : Nat → Nat} {n mo sp dp : Nat} {d fr e oa fi : Nat} {rp : Int32 → Int32 → Int32 → Int32 → Mm → Option Mm} {nest : Nat → Nat → Nat → Gs → Pr}
/-- what an item leaves -/
def ResI (d fr e oa fi : Nat) (ends : List Nat) (k p : Nat) (g : Gs) (rc : Rc) (M : Mm) (r : Nat × Int32 × Nat × Gs) : Prop := (r.1 = 0 → CPk d fr e oa fi (ends ++ [r.2.2.2.1.length - oa]) M ∧ VW M r.2.2.1 r.2.2.2 0 (-1) ∧ (d = 0 → IV M (aRec d k p g r.2.2.2 r.2.2.1 rc))) ∧ (r.1 ≠ 0 → (∃ p', VW M p' r.2.2.2 r.1 r.2.1) ∧ (d = 0 → IV M rc))
theorem e_itemR {M M2 : Mm} {ends : List Nat} {p k : Nat} {g : Gs} {rc : Rc} {r : Rs} (B : Bc t n mo sp dp M) (hd : d ≤ 8) (hP : CPk d fr e oa fi ends M) (hV : VW M p g 0 (-1)) (hg : OkG mo sp g g) (hoa : oa ≤ g.1.length) (he : e ≤ n) (h6 : fi + ends.length < 600) (hI : d = 0 → IV M rc ∧ rc.length < 600) (hr : RS M M2 r) (hk : OkR mo sp e p g.1 g.2.1 r) :
    ∃ M', rX4_readItem_b151 rp (20 + d) (nI k) (nI p) (nI d) (nI g.1.length) (nI g.2.1) M2 = some M' ∧ ResI d fr e oa fi ends k p g rc M' (lift r g.2.2.1 g.2.2.2) ∧ Fm d fi M M' := by
  obtain ⟨b1, b2, b3, b4, b5, -⟩ := id B
  obtain ⟨p', hp', hc⟩ := hr
  obtain ⟨k1, k2, k3, k4, k5, k6⟩ := hk
  have hV2 : VW M2 p' (r.2.2.2.1, r.2.2.2.2, g.2.2.1, g.2.2.2) r.1 r.2.1 := hc.vw hV.2.2.1 hV.2.2.2.1
  have hF : Fm d fi M M2 := hc.fm
  have hI2 : d = 0 → IV M2 rc := fun h => by
    unfold IV
    rw [hc.1 9 (by decide) (by decide) (by decide) (by decide), hc.1 10 (by decide) (by decide) (by decide) (by decide), hc.1 11 (by decide) (by decide) (by decide) (by decide), hc.1 12 (by decide) (by decide) (by decide) (by decide), hc.1 13 (by decide) (by decide) (by decide) (by decide), hc.1 14 (by decide) (by decide) (by decide) (by decide)]
    exact (hI h).1
  by_cases h0 : r.1 = 0
  · have hpp := hp' h0
    subst hpp
    obtain ⟨k7, k8, k9⟩ := k6 h0
    have hP2 : CPk d fr e oa fi ends M2 := by
      unfold CPk
      rw [hc.1 (20 + d) (by omega) (by omega) (by omega) (by omega), hc.1 29 (by decide) (by decide) (by decide) (by decide)]
      exact hP
    rw [h0, k9] at hV2
    obtain ⟨M', e1, j1, j2, j3, j4⟩ := e_fin (rp := rp) (k := k) (p := p) (g := g) (rc := rc) hd hP2 hV2 (fun h => ⟨hI2 h, (hI h).2⟩) h6 (Nat.le_trans hoa k1) k1 k3 (by omega) (by show r.2.2.2.1.length ≤ 4000; omega) (by show r.2.2.2.2 ≤ 20000; omega) (by omega)
    exact ⟨M', e1, ⟨fun _ => ⟨j1, j2, j3⟩, fun q => absurd h0 q⟩, hF.tr j4⟩
  · exact ⟨M2, e_finF hV2 h0 k5, ⟨fun q => absurd q h0, fun _ => ⟨⟨p', hV2⟩, hI2⟩⟩, hF⟩
theorem e_nest {M M1 : Mm} {ends : List Nat} {p : Nat} {g : Gs} {rc : Rc} (B : Bc t n mo sp dp M) (hN : NestOk t n mo sp dp d rp nest) (hON : OkN mo sp nest) (hE : ∀ a b g, b ≤ n → OkG mo sp g g → d + 1 ≤ 8 → (nest a b (d + 1) g).1 = 0 → (nest a b (d + 1) g).2.2.1 = b) (hd : d ≤ 8) (hP : CPk d fr e oa fi ends M) (hV : VW M p g 0 (-1)) (h : CI M M1 g.1 (p + 1) g.2.1 0 (-1)) (hg : OkG mo sp g g) (hoa : oa ≤ g.1.length) (hpe : p < e) (he : e ≤ n) (h6 : 2 * (fi + ends.length) ≤ p) (hI : d = 0 → IV M rc ∧ rc.length < 600) :
    ∃ M2 M', rX4_readNest rp (nI p) (20 + d) (nI d) M1 = some M2 ∧ rX4_readItem_b151 rp (20 + d) (nI 4) (nI p) (nI d) (nI g.1.length) (nI g.2.1) M2 = some M' ∧ ResI d fr e oa fi ends 4 p g rc M' (aNest nest t sp dp e d p g) ∧ Fm d fi M M' := by
  obtain ⟨b1, b2, b3, b4, b5, -⟩ := id B
  have ho := hg.2.1
  have hc := hg.2.2.2.1
  obtain ⟨p1, p2, p3, p4, p5, p6⟩ := id hP
  have gk : ∀ {M' : Mm} {out : List Nat} {p co fc : Nat} {fp : Int32}, CI M M' out p co fc fp → M'.1 (20 + d) = M.1 (20 + d) := fun h => h.1 (20 + d) (by omega) (by omega) (by omega) (by omega)
  have bad : ∀ {M2 : Mm} {s c w : Nat}, rX4_readNest rp (nI p) (20 + d) (nI d) M1 = some M2 → CI M M2 g.1 s g.2.1 c (nI w) → c ≠ 0 → c < 100 → aNest nest t sp dp e d p g = (c, nI w, 0, g) → ∃ M2 M', rX4_readNest rp (nI p) (20 + d) (nI d) M1 = some M2 ∧ rX4_readItem_b151 rp (20 + d) (nI 4) (nI p) (nI d) (nI g.1.length) (nI g.2.1) M2 = some M' ∧ ResI d fr e oa fi ends 4 p g rc M' (aNest nest t sp dp e d p g) ∧ Fm d fi M M' := by
    intro M2 s c w e1 h1 hc0 hc1 hA
    obtain ⟨M', e2, r1, f1⟩ := e_itemR (rp := rp) (k := 4) B hd hP hV hg hoa he (by omega) hI (RS.no h1 hc0) (OkR.fll (e := e) (p := p) (w := w) ho hc hc0 hc1)
    refine ⟨M2, M', e1, e2, ?_, f1⟩
    rw [hA]
    exact r1
  have hu : rX4_readNest rp (nI p) (20 + d) (nI d) M1 = bd2 (rX4_next (nI e) M1) fun r3 M2 => bd2 (rX4_next (M2.1 (20 + d) 1) M2) fun r6 M5 => if r3 = -1 then some M5 else (if r6 = -1 then some M5 else (lt_ ((256 * r3) + r6) fun y9 => bd2 (rX4_hasBytes y9 (M5.1 (20 + d) 1) M5) fun r12 M11 => if r12 = 0 then some M11 else (bd2 (rX4_canPay (nI p) 0 3 M11) fun r16 M15 => if r16 = 0 then some M15 else (if (nI d + 1) ≤ M15.1 5 8 then (lt_ (st M15 5 12 (M15.1 5 12 + 3)) fun M19 => Option.bind (rp (M19.1 5 9) (M19.1 5 9 + y9) (nI d + 1) (M19.1 (20 + d) 3 + M19.1 (20 + d) 4) M19) fun M21 => some M21) else (Option.bind (rX4_fail 13 (nI p) M15) fun M23 => some M23))))) := by
    unfold rX4_readNest
    rw [gk h, p2]
  by_cases c1 : e ≤ p + 1
  · obtain ⟨M2, e2, h2⟩ := ev_next0 h c1 (by omega) (by omega) (by decide)
    obtain ⟨M3, e3, h3⟩ := ev_next0 h2 c1 (by omega) (by omega) (by decide)
    refine bad (M2 := M3) (by rw [hu, e2, bd2_some, gk h2, p2, e3]; rfl) h3 (by decide) (by decide) ?_
    unfold aNest
    rw [if_pos (by omega)]; rfl
  obtain ⟨M2, e2, h2⟩ := ev_next1 B h (by omega) he
  have tb := b2 (p + 1) (by omega)
  rw [e2, bd2_some, gk h2, p2] at hu
  by_cases c2 : e ≤ p + 2
  · obtain ⟨M3, e3, h3⟩ := ev_next0 h2 (e := e) (by omega) (by omega) (by omega) (by decide)
    refine bad (M2 := M3) (by rw [hu, e3, bd2_some, if_neg (nI_nm (by omega))]; rfl) h3 (by decide) (by decide) ?_
    unfold aNest
    rw [if_pos c2]; rfl
  obtain ⟨M3, e3, h3⟩ := ev_next1 B h2 (e := e) (by omega) he
  rw [show p + 1 + 1 = p + 2 from rfl] at e3
  have tb2 := b2 (p + 2) (by omega)
  rw [e3, bd2_some, if_neg (nI_nm (by omega)), if_neg (nI_nm (by omega)), lt_e, k_256, nI_mul, nI_add, gk h3, p2] at hu
  obtain ⟨w, hw⟩ : ∃ w, w = 256 * t (p + 1) + t (p + 2) := ⟨_, rfl⟩
  have hA1 : aNest nest t sp dp e d p g = if e < p + 3 + w then (3, nI e, 0, g) else if sp < g.2.1 + 3 then (12, nI p, 0, g) else if dp < d + 1 then (13, nI p, 0, g) else ((nest (p + 3) (p + 3 + w) (d + 1) (g.1, g.2.1 + 3, g.2.2.1, g.2.2.2)).1, (nest (p + 3) (p + 3 + w) (d + 1) (g.1, g.2.1 + 3, g.2.2.1, g.2.2.2)).2.1, p + 3 + w, (nest (p + 3) (p + 3 + w) (d + 1) (g.1, g.2.1 + 3, g.2.2.1, g.2.2.2)).2.2.2.1) := by
    unfold aNest
    rw [if_neg c2, ← hw]
  rw [← hw] at hu
  by_cases c3 : e < p + 3 + w
  · obtain ⟨M4, e4, h4⟩ := ev_has0 h3 (e := e) w (by omega) (by omega) (by omega) (by omega) (by decide)
    refine bad (M2 := M4) (by rw [hu, e4]; rfl) h4 (by decide) (by decide) ?_
    rw [hA1, if_pos c3]; rfl
  have e4 := ev_has1 h3 (e := e) w (by omega) (by omega)
  rw [e4, bd2_some, if_neg (by decide)] at hu
  obtain ⟨M5, e5, h5⟩ := ev_can B h3 p 0 3 (by omega) (by omega) (by omega) (by omega)
  rw [show rX4_canPay (nI p) 0 3 M3 = rX4_canPay (nI p) (nI 0) (nI 3) M3 from rfl, e5, bd2_some] at hu
  rw [if_neg c3] at hA1
  by_cases c4 : sp < g.2.1 + 3
  · have hap : aPay mo sp g.1.length g.2.1 0 3 = 12 := by unfold aPay; rw [if_neg (by omega), if_pos c4]
    rw [hap] at h5 hu
    refine bad (M2 := M5) (by rw [hu]; rfl) h5 (by decide) (by decide) ?_
    rw [hA1, if_pos c4]
  have hap : aPay mo sp g.1.length g.2.1 0 3 = 0 := by unfold aPay; rw [if_neg (by omega), if_neg c4]
  rw [hap] at h5 hu
  rw [if_pos rfl, if_neg (by decide), h5.2.1 8 (by decide) (by decide) (by decide) (by decide) (by decide) (by decide), B.2.2.2.2.2.2.2.2.2, k_1, nI_add] at hu
  rw [if_neg c4] at hA1
  by_cases c5 : dp < d + 1
  · obtain ⟨M6, e6, h6'⟩ := ev_fail (c := 13) (w := nI p) h5 (by decide) (by decide)
    refine bad (M2 := M6) (by rw [hu, if_neg (by rw [nI_leI (by omega) (by omega)]; omega), k_13, e6]; rfl) h6' (by decide) (by decide) ?_
    rw [hA1, if_pos c5]; rfl
  rw [if_neg c5] at hA1
  rw [if_pos ((nI_leI (by omega) (by omega)).mpr (by omega)), lt_e, h5.2.2.2.2.1, k_3, nI_add] at hu
  have h7 : CI M (st M5 5 12 (nI (g.2.1 + 3))) g.1 (p + 3) (g.2.1 + 3) 0 (-1) := h5.cost _
  rw [h7.2.2.2.1, gk h7, p4, p5, nI_add, nI_add] at hu
  have hg7 : OkG mo sp g (g.1, g.2.1 + 3, g.2.2.1, g.2.2.2) := ⟨Nat.le_refl _, ho, by show g.2.1 ≤ g.2.1 + 3; omega, by show g.2.1 + 3 ≤ sp; omega, by have := hg.2.2.2.2.1; show 4 * g.2.2.2 ≤ g.2.1 + 3; omega, hg.2.2.2.2.2⟩
  obtain ⟨M8, e8, r8, f8⟩ := hN (p + 3) (p + 3 + w) (fi + ends.length) (p + 3) (g.1, g.2.1 + 3, g.2.2.1, g.2.2.2) (st M5 5 12 (nI (g.2.1 + 3))) (B.mv (h7.fm (d := d) (fi := fi))) (h7.vw hV.2.2.1 hV.2.2.2.1) (by omega) (by omega) (by omega) hg7.own (by omega)
  rw [e8, Option.bind_some] at hu
  have hEE := hE (p + 3) (p + 3 + w) (g.1, g.2.1 + 3, g.2.2.1, g.2.2.2) (by omega) hg7.own (by omega)
  obtain ⟨n1, n2, n3⟩ := hON (p + 3) (p + 3 + w) (d + 1) (g.1, g.2.1 + 3, g.2.2.1, g.2.2.2) hg7.own (by omega)
  generalize nest (p + 3) (p + 3 + w) (d + 1) (g.1, g.2.1 + 3, g.2.2.1, g.2.2.2) = R at r8 hEE n1 n2 n3 hA1
  obtain ⟨⟨p', hp', hv'⟩, -⟩ := r8
  have hF8 : Fm d fi M M8 := (h7.fm).tr (f8.up (by omega) (by omega) (by omega))
  have hI8 : d = 0 → IV M8 rc := fun h0 => by
    unfold IV
    have q := f8.2.2.1 (by omega)
    rw [q 9 (by decide) (by decide), q 10 (by decide) (by decide), q 11 (by decide) (by decide), q 12 (by decide) (by decide), q 13 (by decide) (by decide), q 14 (by decide) (by decide), h7.1 9 (by decide) (by decide) (by decide) (by decide), h7.1 10 (by decide) (by decide) (by decide) (by decide), h7.1 11 (by decide) (by decide) (by decide) (by decide), h7.1 12 (by decide) (by decide) (by decide) (by decide), h7.1 13 (by decide) (by decide) (by decide) (by decide), h7.1 14 (by decide) (by decide) (by decide) (by decide)]
    exact (hI h0).1
  rw [hA1]
  by_cases h0 : R.1 = 0
  · have hpp := hp' h0
    rw [hEE h0] at hpp
    subst hpp
    rw [h0, n3 h0] at hv'
    have hP8 : CPk d fr e oa fi ends M8 := by
      refine ⟨?_, ?_, ?_, ?_, ?_, fun k hk => ?_⟩
      · rw [f8.1 (20 + d) (by omega) (by omega) (by omega) (by omega) (by omega) (by omega), gk h7]; exact p1
      · rw [f8.1 (20 + d) (by omega) (by omega) (by omega) (by omega) (by omega) (by omega), gk h7]; exact p2
      · rw [f8.1 (20 + d) (by omega) (by omega) (by omega) (by omega) (by omega) (by omega), gk h7]; exact p3
      · rw [f8.1 (20 + d) (by omega) (by omega) (by omega) (by omega) (by omega) (by omega), gk h7]; exact p4
      · rw [f8.1 (20 + d) (by omega) (by omega) (by omega) (by omega) (by omega) (by omega), gk h7]; exact p5
      · rw [f8.2.1 (fi + k) (by omega), h7.1 29 (by decide) (by decide) (by decide) (by decide)]; exact p6 k hk
    obtain ⟨n4, n5, n6, n7, n8, n9⟩ := n1
    obtain ⟨M', e9, j1, j2, j3, j4⟩ := e_fin (rp := rp) (k := 4) (p := p) (g := g) (rc := rc) hd hP8 hv' (fun h => ⟨hI8 h, (hI h).2⟩) (by omega) (Nat.le_trans hoa n4) n4 (Nat.le_trans hg7.2.2.1 n6) (by omega) (by omega) (by omega) (by omega)
    exact ⟨M8, M', hu, e9, ⟨fun _ => ⟨j1, j2, j3⟩, fun q => absurd h0 q⟩, hF8.tr j4⟩
  · exact ⟨M8, M8, hu, e_finF hv' h0 n2, ⟨fun q => absurd q h0, fun _ => ⟨⟨p', hv'⟩, hI8⟩⟩, hF8⟩
end
