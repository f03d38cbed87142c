def sm (t : Nat → Nat) (a : Nat) : Nat → Nat
  | 0 => 0
  | k + 1 => sm t a k + t (a + k)
abbrev Gs : Type := List Nat × Nat × Nat × Nat
abbrev Rc : Type := List (Nat × Nat × Nat × Nat × Nat)
abbrev Pr : Type := Nat × Int32 × Nat × Gs × Rc
def lift (r : Rs) (dd bg : Nat) : Nat × Int32 × Nat × Gs := (r.1, r.2.1, r.2.2.1, r.2.2.2.1, r.2.2.2.2, dd, bg)
def aNest (nest : Nat → Nat → Nat → Gs → Pr) (t : Nat → Nat) (sp dp e dep p : Nat) (g : Gs) : Nat × Int32 × Nat × Gs :=
  if e ≤ p + 2 then (3, nI e, 0, g) else if e < p + 3 + (256 * t (p + 1) + t (p + 2)) then (3, nI e, 0, g) else
  if sp < g.2.1 + 3 then (12, nI p, 0, g) else if dp < dep + 1 then (13, nI p, 0, g) else
  ((nest (p + 3) (p + 3 + (256 * t (p + 1) + t (p + 2))) (dep + 1) (g.1, g.2.1 + 3, g.2.2.1, g.2.2.2)).1, (nest (p + 3) (p + 3 + (256 * t (p + 1) + t (p + 2))) (dep + 1) (g.1, g.2.1 + 3, g.2.2.1, g.2.2.2)).2.1, p + 3 + (256 * t (p + 1) + t (p + 2)), (nest (p + 3) (p + 3 + (256 * t (p + 1) + t (p + 2))) (dep + 1) (g.1, g.2.1 + 3, g.2.2.1, g.2.2.2)).2.2.2.1)
def aItem (nest : Nat → Nat → Nat → Gs → Pr) (t : Nat → Nat) (mo sp dp e oa dep p : Nat) (ends : List Nat) (g : Gs) : Nat × Int32 × Nat × Gs :=
  if t p = 1 then lift (aStored t mo sp e p g.1 g.2.1) g.2.2.1 g.2.2.2 else
  if t p = 2 then lift (aRun t mo sp e p g.1 g.2.1) g.2.2.1 g.2.2.2 else
  if t p = 3 then lift (aCopy t mo sp e oa p g.1 g.2.1) g.2.2.1 g.2.2.2 else
  if t p = 4 then aNest nest t sp dp e dep p g else
  if t p = 5 then lift (aNote t mo sp e p g.1 g.2.1) g.2.2.1 g.2.2.2 else
  if t p = 6 then lift (aAgain t mo sp e oa ends p g.1 g.2.1) g.2.2.1 g.2.2.2 else
  if t p = 7 then lift (aCoded t mo sp e p g.1 g.2.1) g.2.2.1 g.2.2.2 else (2, nI p, 0, g)
def aRec (dep k p : Nat) (g g' : Gs) (p' : Nat) (rc : Rc) : Rc := if dep = 0 then rc ++ [(k, p, g'.1.length - g.1.length, g'.2.1 - g.2.1, p' - p)] else rc
def aLoop (nest : Nat → Nat → Nat → Gs → Pr) (t : Nat → Nat) (mo sp dp fr e oa dep : Nat) : Nat → Nat → List Nat → Gs → Rc → Pr
  | 0, p, _, g, rc => (0, -1, p, g, rc)
  | f + 1, p, ends, g, rc => if e ≤ p then (3, nI e, 0, g, rc) else
    if t p = 0 then (if e ≤ p + 1 then (3, nI e, 0, g, rc) else if t (p + 1) ≠ sm t fr (p + 1 - fr) % 256 then (9, nI (p + 1), 0, g, rc) else if p + 2 < e then (10, nI (p + 2), 0, g, rc) else (0, -1, p + 2, g, rc)) else
    if (aItem nest t mo sp dp e oa dep p ends g).1 = 0 then
      aLoop nest t mo sp dp fr e oa dep f (aItem nest t mo sp dp e oa dep p ends g).2.2.1 (ends ++ [(aItem nest t mo sp dp e oa dep p ends g).2.2.2.1.length - oa]) (aItem nest t mo sp dp e oa dep p ends g).2.2.2 (aRec dep (t p) p g (aItem nest t mo sp dp e oa dep p ends g).2.2.2 (aItem nest t mo sp dp e oa dep p ends g).2.2.1 rc)
    else ((aItem nest t mo sp dp e oa dep p ends g).1, (aItem nest t mo sp dp e oa dep p ends g).2.1, 0, (aItem nest t mo sp dp e oa dep p ends g).2.2.2, rc)
def aG1 (dep : Nat) (g : Gs) : Gs := (g.1, g.2.1 + 4, (if g.2.2.1 < dep then dep else g.2.2.1), g.2.2.2 + 1)
def aPack (t : Nat → Nat) (mo sp dp : Nat) : Nat → Nat → Nat → Nat → Gs → Rc → Pr
  | 0, _, _, _, g, rc => (0, -1, 0, g, rc)
  | k + 1, fr, e, dep, g, rc => if sp < g.2.1 + 4 then (12, nI fr, 0, g, rc) else
    if e ≤ fr then (3, nI e, 0, aG1 dep g, rc) else if t fr ≠ 80 then (1, nI fr, 0, aG1 dep g, rc) else
    if e ≤ fr + 1 then (3, nI e, 0, aG1 dep g, rc) else if t (fr + 1) ≠ 75 then (1, nI (fr + 1), 0, aG1 dep g, rc) else
    aLoop (fun a b c d => aPack t mo sp dp k a b c d []) t mo sp dp fr e g.1.length dep 1300 (fr + 2) [] (aG1 dep g) rc
theorem sm_le {t : Nat → Nat} {a : Nat} : ∀ k, (∀ i, i < k → t (a + i) < 256) → sm t a k ≤ 255 * k
  | 0, _ => Nat.le_refl 0
  | k + 1, h => by
    have h1 := sm_le k (fun i hi => h i (by omega))
    have h2 := h k (by omega)
    rw [sm]; omega
/-- what comes out of an item that isn't a NEST -/
def OkR (mo sp e p : Nat) (out : List Nat) (co : Nat) (r : Rs) : Prop := out.length ≤ r.2.2.2.1.length ∧ r.2.2.2.1.length ≤ mo ∧ co ≤ r.2.2.2.2 ∧ r.2.2.2.2 ≤ sp ∧ r.1 < 100 ∧ (r.1 = 0 → p + 2 ≤ r.2.2.1 ∧ r.2.2.1 ≤ e ∧ r.2.1 = -1)
section
variable {t : Nat → Nat} {mo sp e oa p : Nat} {ends out : List Nat} {co : Nat}
theorem OkR.fll {c w : Nat} (ho : out.length ≤ mo) (hc : co ≤ sp) (h0 : c ≠ 0) (h1 : c < 100) : OkR mo sp e p out co (rf c w out co) := ⟨Nat.le_refl _, ho, Nat.le_refl _, hc, h1, fun q => absurd q h0⟩
theorem OkR.pyy {c w : Nat} {x y : Nat} (ho : out.length ≤ mo) (hc : co ≤ sp) (h : ¬ aPay mo sp out.length co x y = 0) : OkR mo sp e p out co (rf (aPay mo sp out.length co x y) w out co) := OkR.fll ho hc h aPay_lt
theorem OkR.okk {x y k p' : Nat} {out' : List Nat} (h : aPay mo sp out.length co x y = 0) (hl : out'.length = out.length + k) (hk : k = x) (hp : p + 2 ≤ p' ∧ p' ≤ e) : OkR mo sp e p out co (rk p' out' (co + y)) := by
  obtain ⟨a, b⟩ := aPay_cap h
  exact ⟨by show out.length ≤ out'.length; omega, by show out'.length ≤ mo; omega, by show co ≤ co + y; omega, b, (by decide : 0 < 100), fun _ => ⟨hp.1, hp.2, rfl⟩⟩
theorem ok_stored (ho : out.length ≤ mo) (hc : co ≤ sp) : OkR mo sp e p out co (aStored t mo sp e p out co) := by
  unfold aStored
  split
  · exact OkR.fll ho hc (by decide) (by decide)
  · split
    · exact OkR.fll ho hc (by decide) (by decide)
    · split
      · rename_i h1 h2 h3
        exact OkR.okk h3 (apn_len _ _ _ _) rfl (by omega)
      · rename_i h3
        exact OkR.pyy (c := 0) ho hc h3
theorem ok_note (ho : out.length ≤ mo) (hc : co ≤ sp) : OkR mo sp e p out co (aNote t mo sp e p out co) := by
  unfold aNote
  split
  · exact OkR.fll ho hc (by decide) (by decide)
  · split
    · exact OkR.fll ho hc (by decide) (by decide)
    · split
      · rename_i h1 h2 h3
        exact OkR.okk (k := 0) h3 rfl rfl (by omega)
      · rename_i h3
        exact OkR.pyy (c := 0) ho hc h3
theorem ok_run (ho : out.length ≤ mo) (hc : co ≤ sp) : OkR mo sp e p out co (aRun t mo sp e p out co) := by
  unfold aRun
  split
  · exact OkR.fll ho hc (by decide) (by decide)
  · split
    · rename_i h1 h3
      exact OkR.okk h3 (apn_len _ _ _ _) rfl (by omega)
    · rename_i h3
      exact OkR.pyy (c := 0) ho hc h3
theorem ok_copy (ho : out.length ≤ mo) (hc : co ≤ sp) : OkR mo sp e p out co (aCopy t mo sp e oa p out co) := by
  unfold aCopy
  split
  · exact OkR.fll ho hc (by decide) (by decide)
  · split
    · exact OkR.fll ho hc (by decide) (by decide)
    · split
      · exact OkR.fll ho hc (by decide) (by decide)
      · split
        · rename_i h1 h2 h4 h3
          exact OkR.okk h3 (apn_len _ _ _ _) rfl (by omega)
        · rename_i h3
          exact OkR.pyy (c := 0) ho hc h3
theorem ok_again (ho : out.length ≤ mo) (hc : co ≤ sp) : OkR mo sp e p out co (aAgain t mo sp e oa ends p out co) := by
  unfold aAgain
  split
  · exact OkR.fll ho hc (by decide) (by decide)
  · split
    · exact OkR.fll ho hc (by decide) (by decide)
    · split
      · rename_i h1 h2 h3
        exact OkR.okk h3 (apn_len _ _ _ _) rfl (by omega)
      · rename_i h3
        exact OkR.pyy (c := 0) ho hc h3
theorem aLen_c {at_ : Nat} : ∀ (r i : Nat) (q : Nat × Nat), aLen t e at_ r i = some q → q.1 = 3 ∨ q.1 = 6
  | 0, _, _, h => by cases h
  | r + 1, i, q, h => by
    rw [aLen] at h
    split at h
    · cases h; exact Or.inl rfl
    · split at h
      · cases h; exact Or.inr rfl
      · exact aLen_c r (i + 1) q h
theorem aLen_n {at_ : Nat} : ∀ (r i : Nat), aLen t e at_ r i = none → 0 < r → at_ + i + r ≤ e
  | 0, _, _, h => by omega
  | r + 1, i, h, _ => by
    rw [aLen] at h
    split at h
    · cases h
    · split at h
      · cases h
      · rcases Nat.eq_zero_or_pos r with hr | hr
        · subst hr; omega
        · have := aLen_n r (i + 1) h hr; omega
theorem aSym_b {m : Nat} {sy ln : Nat → Nat} : ∀ (r L code b : Nat), (aSym t e m sy ln r L code b).1 = 0 → b < (aSym t e m sy ln r L code b).2.2 ∧ (aSym t e m sy ln r L code b).2.2 ≤ 8 * e
  | 0, _, _, _, h => by simp [aSym] at h
  | r + 1, L, code, b, h => by
    rw [aSym] at h ⊢
    by_cases h1 : e ≤ b / 8
    · rw [if_pos h1] at h; cases h
    · rw [if_neg h1] at h ⊢
      cases hf : fnd ln m L (2 * code + bitAt t b) m 0 with
      | some k => simp only; omega
      | none =>
        rw [hf] at h
        have := aSym_b r (L + 1) _ (b + 1) h
        simp only
        omega
theorem aBits_ok {m : Nat} {sy ln : Nat → Nat} : ∀ (r b : Nat) (out : List Nat), b ≤ 8 * e → out.length ≤ (aBits t e m sy ln r b out).2.2.2.length ∧ (aBits t e m sy ln r b out).2.2.2.length ≤ out.length + r ∧ (aBits t e m sy ln r b out).1 < 100 ∧ ((aBits t e m sy ln r b out).1 = 0 → b ≤ (aBits t e m sy ln r b out).2.2.1 ∧ (aBits t e m sy ln r b out).2.2.1 ≤ 8 * e)
  | 0, b, out, hb => by
    rw [aBits]
    split
    · exact ⟨Nat.le_refl _, Nat.le_refl _, (by decide : 8 < 100), fun q => (by cases q)⟩
    · exact ⟨Nat.le_refl _, Nat.le_refl _, (by decide : 0 < 100), fun _ => ⟨Nat.le_refl _, hb⟩⟩
  | r + 1, b, out, hb => by
    rw [aBits]
    have hs := aSym_b (t := t) (e := e) (m := m) (sy := sy) (ln := ln) (kL ln m) 1 0 b
    generalize aSym t e m sy ln (kL ln m) 1 0 b = q at hs ⊢
    obtain ⟨q1, q2, q3⟩ := q
    match q1, hs with
    | 0, hs =>
      obtain ⟨h1, h2⟩ := hs rfl
      have := aBits_ok (m := m) (sy := sy) (ln := ln) r q3 (out ++ [q2]) h2
      simp only [List.length_append, List.length_cons, List.length_nil] at this
      have h1' : b < q3 := h1
      refine ⟨Nat.le_trans (by omega) this.1, Nat.le_trans this.2.1 (by omega), this.2.2.1, fun q => ⟨Nat.le_trans (by omega) (this.2.2.2 q).1, (this.2.2.2 q).2⟩⟩
    | 1, _ => exact ⟨Nat.le_refl _, by show out.length ≤ out.length + (r + 1); omega, (by decide : 7 < 100), fun q => (by cases q)⟩
    | 2, _ => exact ⟨Nat.le_refl _, by show out.length ≤ out.length + (r + 1); omega, (by decide : 7 < 100), fun q => (by cases q)⟩
    | 3, _ => exact ⟨Nat.le_refl _, by show out.length ≤ out.length + (r + 1); omega, (by decide : 3 < 100), fun q => (by cases q)⟩
    | k + 4, _ => exact ⟨Nat.le_refl _, by show out.length ≤ out.length + (r + 1); omega, (by decide : 7 < 100), fun q => (by cases q)⟩
theorem ok_coded (ho : out.length ≤ mo) (hc : co ≤ sp) : OkR mo sp e p out co (aCoded t mo sp e p out co) := by
  unfold aCoded
  split
  · exact OkR.fll ho hc (by decide) (by decide)
  · split
    · exact OkR.fll ho hc (by decide) (by decide)
    · split
      · exact OkR.fll ho hc (by decide) (by decide)
      · rename_i h1 h2 h3
        split
        · rename_i q hq
          have := aLen_c _ _ _ hq
          exact OkR.fll ho hc (by omega) (by omega)
        · rename_i hq
          have hn := aLen_n _ _ hq (by omega)
          split
          · exact OkR.fll ho hc (by decide) (by decide)
          · split
            · exact OkR.fll ho hc (by decide) (by decide)
            · split
              · rename_i h5 h6 h7
                obtain ⟨a, b⟩ := aPay_cap h7
                have hb := aBits_ok (t := t) (e := e) (m := t (p + 1)) (sy := fun k => t (p + 2 + k)) (ln := fun k => t (p + 2 + t (p + 1) + k)) (t (p + 2 + t (p + 1) + t (p + 1))) (8 * (p + 2 + t (p + 1) + t (p + 1) + 1)) out (by omega)
                dsimp only
                generalize aBits t e (t (p + 1)) (fun k => t (p + 2 + k)) (fun k => t (p + 2 + t (p + 1) + k)) (t (p + 2 + t (p + 1) + t (p + 1))) (8 * (p + 2 + t (p + 1) + t (p + 1) + 1)) out = R at hb ⊢
                obtain ⟨b1, b2, b3, b4⟩ := hb
                split
                · rename_i h8
                  have b5 := b4 h8
                  exact ⟨b1, by show R.2.2.2.length ≤ mo; omega, by show co ≤ co + _; omega, b, (by decide : 0 < 100), fun _ => ⟨by show p + 2 ≤ (R.2.2.1 + 7) / 8; omega, by show (R.2.2.1 + 7) / 8 ≤ e; omega, rfl⟩⟩
                · rename_i h8
                  exact ⟨b1, by show R.2.2.2.length ≤ mo; omega, by show co ≤ co + _; omega, b, b3, fun q => absurd q h8⟩
              · rename_i h7
                exact OkR.pyy (c := 0) ho hc h7
end
