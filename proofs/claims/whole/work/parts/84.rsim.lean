def Fin0 (M : Mm) (rc : Rc) : Prop := IR M rc ∧ M.1 38 0 = nI rc.length ∧ M.1 36 0 = nI (2 + sl rc)
/-- the reference's loop, run till the PACK at depth d is closed, or a fault -/
def Sim (d e p : Nat) (M : Mm) (r : Pr) : Prop :=
  (r.1 ≠ 0 → ∃ N M', N ≤ e - p + 1 ∧ (∀ F, rX7_reads_b76 (N + F + 1) M = some M') ∧ RG M' r.2.2.2.1 r.1 r.2.1 ∧ Fk d M M' ∧ (d = 0 → Fin0 M' r.2.2.2.2)) ∧
  (r.1 = 0 → ∃ N Mx, N ≤ e - p + 1 ∧ RG Mx r.2.2.2.1 0 (-1) ∧ Mx.1 31 14 = nI d ∧ Fk d M Mx ∧ (d = 0 → Fin0 Mx r.2.2.2.2 ∧ ∀ F, rX7_reads_b76 (N + F) M = rX7_reads_b76 F Mx) ∧ (0 < d → ∀ F, rX7_reads_b76 (N + F) M = Option.bind (rX7_ends (nI (d - 1)) (nI e) Mx) (rX7_reads_b76 F)))
theorem Sim.pre {d e p p1 m : Nat} {M M1 : Mm} {r : Pr} (h : ∀ F, rX7_reads_b76 (m + F) M = rX7_reads_b76 F M1) (hf : Fk d M M1) (hm : m + (e - p1 + 1) ≤ e - p + 1) (hs : Sim d e p1 M1 r) : Sim d e p M r := by
  obtain ⟨h1, h2⟩ := hs
  constructor
  · intro q
    obtain ⟨N, M', a, b, c, x, y⟩ := h1 q
    exact ⟨m + N, M', by omega, fun F => by rw [show m + N + F + 1 = m + (N + F + 1) by omega, h]; exact b F, c, hf.tr x, y⟩
  · intro q
    obtain ⟨N, Mx, a, b, c, x, y, z⟩ := h2 q
    exact ⟨m + N, Mx, by omega, b, c, hf.tr x, fun h0 => ⟨(y h0).1, fun F => by rw [show m + N + F = m + (N + F) by omega, h]; exact (y h0).2 F⟩, fun h0 F => by rw [show m + N + F = m + (N + F) by omega, h]; exact z h0 F⟩
theorem Sim.flt {d e p m c x : Nat} {w : Int32} {M M1 : Mm} {g : Gs} {rc : Rc} (h : ∀ F, rX7_reads_b76 (m + F) M = rX7_reads_b76 F M1) (hf : Fk d M M1) (hm : m ≤ e - p + 1) (hG : RG M1 g c w) (h0 : c ≠ 0) (h1 : c < 100) (hF : d = 0 → Fin0 M1 rc) : Sim d e p M (c, w, x, g, rc) :=
  ⟨fun _ => ⟨m, M1, hm, fun F => by rw [show m + F + 1 = m + (F + 1) by omega, h]; exact L_stop hG.2.2.2.2.2.1 h0 h1, hG, hf, hF⟩, fun q => absurd q h0⟩
/-- a nested PACK, from its begin on -/
def PackSim (t : Nat → Nat) (n mo sp dp d : Nat) (nest : Nat → Nat → Nat → Gs → Pr) : Prop := ∀ (fr e : Nat) (g : Gs) (M : Mm), RB t n mo sp dp M → RG M g 0 (-1) → M.1 31 14 = nI (d + 1) → fr ≤ e → e ≤ n → OkG mo sp g g → d + 1 ≤ 8 →
  ∃ M1, rX7_begins (nI fr) (nI e) M = some M1 ∧ ((nest fr e (d + 1) g).1 ≠ 0 → ∃ N M', N ≤ e - fr ∧ (∀ F, rX7_reads_b76 (N + F + 1) M1 = some M') ∧ RG M' (nest fr e (d + 1) g).2.2.2.1 (nest fr e (d + 1) g).1 (nest fr e (d + 1) g).2.1 ∧ Fk (d + 1) M M') ∧
    ((nest fr e (d + 1) g).1 = 0 → ∃ N Mx, N ≤ e - fr ∧ RG Mx (nest fr e (d + 1) g).2.2.2.1 0 (-1) ∧ Mx.1 31 14 = nI (d + 1) ∧ Fk (d + 1) M Mx ∧ ∀ F, rX7_reads_b76 (N + F) M1 = Option.bind (rX7_ends (nI d) (nI e) Mx) (rX7_reads_b76 F))
section
variable {t : Nat → Nat} {n mo sp dp d fr e oa : Nat}
theorem r_loop (nest : Nat → Nat → Nat → Gs → Pr) (hON : OkN mo sp nest) (hN : PackSim t n mo sp dp d nest) (hd : d ≤ 8) (he : e ≤ n) : ∀ (f p : Nat) (ends : List Nat) (g : Gs) (rc : Rc) (M : Mm), e < p + f → p ≤ e → fr ≤ p → 2 * ends.length ≤ p → RB t n mo sp dp M → RG M g 0 (-1) → M.1 31 14 = nI (d + 1) → RPk d fr e oa ends p M → OkG mo sp g g → oa ≤ g.1.length → (∀ k, k < ends.length → oa + ends.getD k 0 ≤ g.1.length) → (d = 0 → IR M rc ∧ rc.length = ends.length ∧ p = 2 + sl rc) → Sim d e p M (aLoop nest t mo sp dp fr e oa d f p ends g rc) := by
  intro f
  induction f with
  | zero => intro p ends g rc M h1 h2; omega
  | succ f ih =>
    intro p ends g rc M hf hpe hfr hl B hG htop hP hg hoa hen hI
    obtain ⟨b1, b2, b3, b4, b5, b6, b7, b8, b9⟩ := id B
    have h8 := hG.2.2.2.2.2.1
    have ho := hg.2.1
    have hc := hg.2.2.2.1
    have step : ∀ {M1 : Mm}, rX7_item M = some M1 → ∀ F, rX7_reads_b76 (1 + F) M = rX7_reads_b76 F M1 := by
      intro M1 h F
      rw [show 1 + F = F + 1 by omega, L_step h8 htop (by omega), h, Option.bind_some]
    have hFin : ∀ {M1 : Mm}, d = 0 → M1.1 36 0 = M.1 36 0 → M1.1 38 0 = M.1 38 0 → (∀ c, 43 ≤ c → c ≤ 46 → M1.1 c = M.1 c) → Fin0 M1 rc := by
      intro M1 h0 h36 h38 hr
      obtain ⟨i1, i2, i3⟩ := hI h0
      subst h0
      refine ⟨?_, ?_, ?_⟩
      · unfold IR
        rw [hr 43 (by decide) (by decide), hr 44 (by decide) (by decide), hr 45 (by decide) (by decide), hr 46 (by decide) (by decide)]
        exact i1
      · rw [h38, hP.2.2.2.2.1, i2]
      · rw [h36, hP.2.2.1, i3]
    rw [aLoop]
    by_cases c1 : e ≤ p
    · obtain ⟨M1, e1, g1, r1⟩ := r_item0 B hG htop hP hd he c1 (by omega)
      rw [if_pos c1]
      exact Sim.flt (step e1) r1.fk (by omega) g1 (by decide) (by decide) (fun h0 => hFin h0 (by rw [r1.1 36 (by decide) (by decide) (by decide)]) (by rw [r1.1 38 (by decide) (by decide) (by decide)]) (fun c a b => r1.1 c (by omega) (by omega) (by omega)))
    rw [if_neg c1]
    have hU := r_itemU B hG htop hP hd he (by omega)
    have tb := b2 p (by omega)
    have B3 := m13_B (d := d) (p := p) (g := g) B
    have hP3 : RPk d fr e oa ends p (M13 d p g M) := m13_P hP
    have ht3 : (M13 d p g M).1 31 14 = nI (d + 1) := by rw [m13_ne (by decide)]; exact htop
    have hG3 : RG (M13 d p g M) g 0 (-1) := m13_G hG
    obtain ⟨-, -, -, -, -, d6, d7, d8, d9⟩ := id B3
    have BB : Br t n mo sp d e (M13 d p g M) := ⟨b1, b2, b3, b4, hd, he, d6, d7, d8, ht3, hP3.2.1⟩
    have f13 : Fk d M (M13 d p g M) := m13_fk
    have fltR : ∀ {M1 : Mm} {c x : Nat} {w : Int32}, rX7_item M = some M1 → RI (M13 d p g M) M1 g.1 g.2.1 c w → c ≠ 0 → c < 100 → Sim d e p M (c, w, x, g, rc) := by
      intro M1 c x w e1 r1 h0 h1
      refine Sim.flt (step e1) (f13.tr r1.fk) (by omega) (r1.rg hG3.2.2.2.1 hG3.2.2.2.2.1) h0 h1 (fun h0 => hFin h0 ?_ ?_ (fun c a b => ?_))
      · rw [r1.1 36 (by decide) (by decide) (by decide), m13_ne (by decide)]
      · rw [r1.1 38 (by decide) (by decide) (by decide), m13_ne (by decide)]
      · rw [r1.1 c (by omega) (by omega) (by omega), m13_ne (by omega)]
    by_cases c0 : t p = 0
    · rw [if_pos (show nI (t p) = 0 by rw [c0]; rfl)] at hU
      rw [if_pos c0]
      have hck : (if e ≤ p + 1 then ((3, nI e, 0, g, rc) : Pr) else if t (p + 1) ≠ sm t fr (p + 1 - fr) % 256 then (9, nI (p + 1), 0, g, rc) else if p + 2 < e then (10, nI (p + 2), 0, g, rc) else (0, -1, p + 2, g, rc)) = ((ckr t fr e p).1, (ckr t fr e p).2, (if (ckr t fr e p).1 = 0 then p + 2 else 0), g, rc) := by
        unfold ckr
        by_cases q1 : e ≤ p + 1
        · rw [if_pos q1, if_pos q1]; rfl
        rw [if_neg q1, if_neg q1]
        by_cases q2 : t (p + 1) ≠ sm t fr (p + 1 - fr) % 256
        · rw [if_pos q2, if_pos q2]; rfl
        rw [if_neg q2, if_neg q2]
        by_cases q3 : p + 2 < e
        · rw [if_pos q3, if_pos q3]; rfl
        rw [if_neg q3, if_neg q3]; rfl
      rw [hck]
      obtain ⟨k1, k2⟩ := r_closes BB hG3 hP3 (by omega) hfr
      have hck9 : (ckr t fr e p).1 < 100 := by
        unfold ckr
        split
        · exact (by decide : 3 < 100)
        split
        · exact (by decide : 9 < 100)
        split
        · exact (by decide : 10 < 100)
        · exact (by decide : 0 < 100)
      by_cases q0 : (ckr t fr e p).1 = 0
      · obtain ⟨k3, k4⟩ := k2 q0
        have k4 := hU.trans k4
        have fx : Fk d M (st (M13 d p g M) 31 14 (nI d)) := by
          refine f13.tr ⟨fun c hcc => st_ne (by omega), fun c j a b => by rw [st_ne (by omega)], fun k _ => by rw [st_ne (by decide)], fun _ c a b => st_ne (by omega), fun j hj => by rw [st_eq, upd_n (by omega)], rfl⟩
        refine ⟨fun q => absurd q0 q, fun _ => ⟨1, st (M13 d p g M) 31 14 (nI d), by omega, ?_, by rw [st_eq, upd_s], fx, fun h0 => ⟨?_, ?_⟩, fun h0 F => ?_⟩⟩
        · unfold RG
          rw [st_eq, st_ne (by decide), upd_n (by decide), upd_n (by decide), upd_n (by decide), upd_n (by decide), upd_n (by decide), upd_n (by decide)]
          exact hG3
        · refine hFin h0 ?_ ?_ (fun c a b => ?_)
          · rw [st_ne (by decide), m13_ne (by decide)]
          · rw [st_ne (by decide), m13_ne (by decide)]
          · rw [st_ne (by omega), m13_ne (by omega)]
        · intro F
          rw [if_pos h0] at k4
          exact step k4 F
        · rw [if_neg (by omega)] at k4
          rw [show 1 + F = F + 1 by omega, L_step h8 htop (by omega), k4]
      · obtain ⟨M1, e1, r1⟩ := k1 q0
        exact fltR (hU.trans e1) r1 q0 hck9
    rw [if_neg c0]
    by_cases c4 : t p = 4
    · -- a NEST
      have hU4 : rX7_item M = rX7_nest (nI p) (M13 d p g M) := by
        rw [hU, c4]; rfl
      have hA4 : aItem nest t mo sp dp e oa d p ends g = aNest nest t sp dp e d p g := by
        unfold aItem
        rw [if_neg (by omega), if_neg (by omega), if_neg (by omega), if_pos c4]
      rw [hA4]
      rcases r_nest nest BB (p := p) d9 b5 hG3 (by omega) hg with ⟨M1, c, w, q0, e1, r1, hA⟩ | ⟨w, w1, w2, w3, e1, hA⟩
      · rw [hA]
        dsimp only
        rw [if_neg q0]
        have hc9 : c < 100 := by
          have := (ok_item (t := t) (e := e) (oa := oa) (dep := d) (p := p) (ends := ends) hON hg b5).2.1
          rw [hA4, hA] at this
          exact this
        exact fltR (hU4.trans e1) r1 q0 hc9
      · have rb : RI (M13 d p g M) (st (M13 d p g M) 31 10 (nI (g.2.1 + 3))) g.1 (g.2.1 + 3) 0 (-1) := hG3.ri.cost _
        have gb : RG (st (M13 d p g M) 31 10 (nI (g.2.1 + 3))) (g.1, g.2.1 + 3, g.2.2.1, g.2.2.2) 0 (-1) := rb.rg hG3.2.2.2.1 hG3.2.2.2.2.1
        have fb : Fk d M (st (M13 d p g M) 31 10 (nI (g.2.1 + 3))) := f13.tr rb.fk
        have tpb : (st (M13 d p g M) 31 10 (nI (g.2.1 + 3))).1 31 14 = nI (d + 1) := by rw [st_eq, upd_n (by decide)]; exact ht3
        have hg7 : OkG mo sp g (g.1, g.2.1 + 3, g.2.2.1, g.2.2.2) := ⟨Nat.le_refl _, ho, by show g.2.1 ≤ g.2.1 + 3; omega, by show g.2.1 + 3 ≤ sp; omega, by have := hg.2.2.2.2.1; show 4 * g.2.2.2 ≤ g.2.1 + 3; omega, hg.2.2.2.2.2⟩
        obtain ⟨M1, e2, n1, n2⟩ := hN (p + 3) (p + 3 + w) (g.1, g.2.1 + 3, g.2.2.1, g.2.2.2) _ (B.mv fb) gb tpb (by omega) (by omega) hg7.own (by omega)
        obtain ⟨o1, o2, o3⟩ := hON (p + 3) (p + 3 + w) (d + 1) (g.1, g.2.1 + 3, g.2.2.1, g.2.2.2) hg7.own (by omega)
        rw [hA]
        generalize nest (p + 3) (p + 3 + w) (d + 1) (g.1, g.2.1 + 3, g.2.2.1, g.2.2.2) = R at n1 n2 o1 o2 o3 ⊢
        have hst := step (hU4.trans (e1.trans e2))
        dsimp only
        by_cases q0 : R.1 = 0
        · rw [if_pos q0]
          obtain ⟨N, Mx, x1, x2, x3, x4, x5⟩ := n2 q0
          have hMx : ∀ c j, (34 ≤ c ∧ c ≤ 38 ∨ 40 ≤ c ∧ c ≤ 42) → j < d + 1 → Mx.1 c j = (M13 d p g M).1 c j := fun c j a b => by rw [x4.2.1 c j a b, st_ne (by omega)]
          have hPx : RPk d fr e oa ends p Mx := by
            refine ⟨?_, ?_, ?_, ?_, ?_, fun k hk => ?_⟩
            · rw [hMx 34 d (by omega) (by omega)]; exact hP3.1
            · rw [hMx 35 d (by omega) (by omega)]; exact hP3.2.1
            · rw [hMx 36 d (by omega) (by omega)]; exact hP3.2.2.1
            · rw [hMx 37 d (by omega) (by omega)]; exact hP3.2.2.2.1
            · rw [hMx 38 d (by omega) (by omega)]; exact hP3.2.2.2.2.1
            · rw [x4.2.2.1 (600 * d + k) (by omega), st_ne (by decide)]; exact hP3.2.2.2.2.2 k hk
          have hIx : d = 0 → IR Mx rc := fun h0 => by
            unfold IR
            have q := x4.2.2.2.1 (by omega)
            rw [q 43 (by decide) (by decide), q 44 (by decide) (by decide), q 45 (by decide) (by decide), q 46 (by decide) (by decide), st_ne (by decide), st_ne (by decide), st_ne (by decide), st_ne (by decide)]
            exact m13_I (hI h0).1
          obtain ⟨M2, e3, p3, i3, k3, f3⟩ := r_ends (t := t) (n := n) (ol := R.2.2.2.1.1.length) (ol0 := g.1.length) (co := R.2.2.2.1.2.1) (co0 := g.2.1) (p' := p + 3 + w) (rc := rc) hd (by omega) hPx x2.1 x2.2.2.1 (Nat.le_trans hoa o1.1) b1 (by omega) (fun i hi => by rw [x4.1 32 (by decide), st_ne (by decide)]; exact d6 i hi) (fun h0 => ⟨by rw [hMx 40 0 (by omega) (by omega), ← h0]; unfold M13; rw [st_ne (by decide), st_ne (by decide), st_eq, upd_s], by rw [hMx 41 0 (by omega) (by omega), ← h0]; unfold M13; rw [st_ne (by decide), st_eq, upd_s], by rw [hMx 42 0 (by omega) (by omega), ← h0]; unfold M13; rw [st_eq, upd_s], o1.1, Nat.le_trans hg7.2.2.1 o1.2.2.1, hIx h0, (hI h0).2.1⟩)
          have f2 : Fk d M M2 := (fb.tr (x4.up (by omega) (by omega))).tr f3
          have g2 : RG M2 R.2.2.2.1 0 (-1) := by
            unfold RG
            rw [k3 31 (by decide), k3 33 (by decide)]
            exact x2
          have hs2 : ∀ F, rX7_reads_b76 (1 + N + F) M = rX7_reads_b76 F M2 := by
            intro F
            rw [show 1 + N + F = 1 + (N + F) by omega, hst, x5, e3, Option.bind_some]
          refine Sim.pre hs2 f2 (p1 := p + 3 + w) (by omega) ?_
          refine ih (p + 3 + w) (ends ++ [R.2.2.2.1.1.length - oa]) R.2.2.2.1 _ M2 (by omega) (by omega) (by omega) (by simp; omega) (B.mv f2) g2 (by rw [k3 31 (by decide)]; exact x3) p3 o1.own (Nat.le_trans hoa o1.1) (fun k hk => ?_) (fun h0 => ?_)
          · simp only [List.length_append, List.length_cons, List.length_nil] at hk
            have o11 : g.1.length ≤ R.2.2.2.1.1.length := o1.1
            rw [getD_app]
            by_cases h7 : k < ends.length
            · rw [if_pos h7]; have := hen k h7; omega
            · rw [if_neg h7, if_pos (by omega)]; omega
          · obtain ⟨y1, y2, y3⟩ := hI h0
            unfold aRec
            rw [if_pos h0]
            refine ⟨i3 h0, by simp; omega, ?_⟩
            rw [sl_app]
            show p + 3 + w = 2 + (sl rc + (p + 3 + w - p))
            omega
        · rw [if_neg q0]
          obtain ⟨N, M2, x1, x2, x3, x4⟩ := n1 q0
          refine ⟨fun _ => ⟨1 + N, M2, by omega, fun F => by rw [show 1 + N + F + 1 = 1 + (N + F + 1) by omega, hst]; exact x2 F, x3, fb.tr (x4.up (by omega) (by omega)), fun h0 => hFin h0 ?_ ?_ (fun c a b => ?_)⟩, fun q => absurd q q0⟩
          · rw [x4.2.1 36 0 (by omega) (by omega), st_ne (by decide), m13_ne (by decide)]
          · rw [x4.2.1 38 0 (by omega) (by omega), st_ne (by decide), m13_ne (by decide)]
          · rw [x4.2.2.2.1 (by omega) c a b, st_ne (by omega), m13_ne (by omega)]
    -- any other item
    obtain ⟨M1, e1, f1, r1, r2⟩ := r_item1 (rc := rc) nest B hG htop hP hd he (by omega) hg hoa (by omega) hen (fun h0 => ⟨(hI h0).1, (hI h0).2.1⟩) c0 c4
    obtain ⟨i1, i2, i3⟩ := ok_item (t := t) (e := e) (oa := oa) (dep := d) (p := p) (ends := ends) hON hg b5
    generalize aItem nest t mo sp dp e oa d p ends g = R at r1 r2 i1 i2 i3 ⊢
    by_cases q0 : R.1 = 0
    · rw [if_pos q0]
      obtain ⟨y1, y2, y3, y4⟩ := r1 q0
      obtain ⟨j1, j2, j3⟩ := i3 q0
      refine Sim.pre (step e1) f1 (p1 := R.2.2.1) (by omega) ?_
      refine ih R.2.2.1 (ends ++ [R.2.2.2.1.length - oa]) R.2.2.2 _ M1 (by omega) j2 (by omega) (by simp; omega) (B.mv f1) y1 y2 y3 i1.own (Nat.le_trans hoa i1.1) (fun k hk => ?_) (fun h0 => ?_)
      · simp only [List.length_append, List.length_cons, List.length_nil] at hk
        have := i1.1
        rw [getD_app]
        by_cases h7 : k < ends.length
        · rw [if_pos h7]; have := hen k h7; omega
        · rw [if_neg h7, if_pos (by omega)]; omega
      · obtain ⟨z1, z2, z3⟩ := hI h0
        refine ⟨y4 h0, ?_, ?_⟩
        · unfold aRec
          rw [if_pos h0]
          simp; omega
        · unfold aRec
          rw [if_pos h0, sl_app]
          show R.2.2.1 = 2 + (sl rc + (R.2.2.1 - p))
          omega
    · rw [if_neg q0]
      obtain ⟨y1, y2, y3⟩ := r2 q0
      refine Sim.flt (step e1) f1 (by omega) y1 q0 i2 (fun h0 => ?_)
      subst h0
      exact ⟨y3 rfl, by rw [y2.2.2.2.2.1, (hI rfl).2.1], by rw [y2.2.2.1, ← (hI rfl).2.2]⟩
end
