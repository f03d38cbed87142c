def VW (M : Mm) (p : Nat) (g : Gs) (fc : Nat) (fp : Int32) : Prop := M.1 5 9 = nI p ∧ M.1 5 12 = nI g.2.1 ∧ M.1 5 13 = nI g.2.2.1 ∧ M.1 5 14 = nI g.2.2.2 ∧ M.1 5 15 = nI fc ∧ M.1 5 16 = fp ∧ M.1 6 1 = nI g.1.length ∧ (∀ i, i < g.1.length → M.1 7 i = nI (g.1.getD i 0))
/-- what a PACK at depth d, its items from fi on, leaves as it was -/
def Fm (d fi : Nat) (A M : Mm) : Prop := (∀ c, c ≠ 5 → c ≠ 6 → c ≠ 7 → c ≠ 29 → (c < 9 ∨ 18 < c) → (c < 20 + d ∨ 28 < c) → M.1 c = A.1 c) ∧ (∀ k, k < fi → M.1 29 k = A.1 29 k) ∧ (0 < d → ∀ c, 9 ≤ c → c ≤ 14 → M.1 c = A.1 c) ∧ (∀ j, (j = 6 ∨ j = 7 ∨ j = 8 ∨ j = 17) → M.1 5 j = A.1 5 j) ∧ M.2 = A.2
theorem Fm.rf {d fi : Nat} {A : Mm} : Fm d fi A A := ⟨fun _ _ _ _ _ _ _ => rfl, fun _ _ => rfl, fun _ _ _ _ => rfl, fun _ _ => rfl, rfl⟩
theorem Fm.tr {d fi : Nat} {A B C : Mm} (h : Fm d fi A B) (k : Fm d fi B C) : Fm d fi A C := ⟨fun c a b d e f g => (k.1 c a b d e f g).trans (h.1 c a b d e f g), fun j hj => (k.2.1 j hj).trans (h.2.1 j hj), fun hd c a b => (k.2.2.1 hd c a b).trans (h.2.2.1 hd c a b), fun j hj => (k.2.2.2.1 j hj).trans (h.2.2.2.1 j hj), k.2.2.2.2.trans h.2.2.2.2⟩
theorem Fm.up {d d' fi fi' : Nat} {A B : Mm} (h : Fm d fi A B) (hd : d' ≤ d) (hf : fi' ≤ fi) (h0 : 0 < d) : Fm d' fi' A B := ⟨fun c a b q e f g => h.1 c a b q e f (by omega), fun j hj => h.2.1 j (by omega), fun _ => h.2.2.1 h0, h.2.2.2.1, h.2.2.2.2⟩
def IV (M : Mm) (rc : Rc) : Prop := M.1 9 5 = nI rc.length ∧ ∀ k, k < rc.length → M.1 10 k = nI (rc.getD k (0, 0, 0, 0, 0)).1 ∧ M.1 11 k = nI (rc.getD k (0, 0, 0, 0, 0)).2.1 ∧ M.1 12 k = nI (rc.getD k (0, 0, 0, 0, 0)).2.2.1 ∧ M.1 13 k = nI (rc.getD k (0, 0, 0, 0, 0)).2.2.2.1 ∧ M.1 14 k = nI (rc.getD k (0, 0, 0, 0, 0)).2.2.2.2
def CPk (d fr e oa fi : Nat) (ends : List Nat) (M : Mm) : Prop := M.1 (20 + d) 0 = nI fr ∧ M.1 (20 + d) 1 = nI e ∧ M.1 (20 + d) 2 = nI oa ∧ M.1 (20 + d) 3 = nI fi ∧ M.1 (20 + d) 4 = nI ends.length ∧ ∀ k, k < ends.length → M.1 29 (fi + k) = nI (oa + ends.getD k 0)
def OkG (mo sp : Nat) (g g' : Gs) : Prop := g.1.length ≤ g'.1.length ∧ g'.1.length ≤ mo ∧ g.2.1 ≤ g'.2.1 ∧ g'.2.1 ≤ sp ∧ 4 * g'.2.2.2 ≤ g'.2.1 ∧ g'.2.2.1 ≤ 8
def OkN (mo sp : Nat) (nest : Nat → Nat → Nat → Gs → Pr) : Prop := ∀ a b c g, OkG mo sp g g → c ≤ 8 → OkG mo sp g (nest a b c g).2.2.2.1 ∧ (nest a b c g).1 < 100 ∧ ((nest a b c g).1 = 0 → (nest a b c g).2.1 = -1)
theorem OkG.tr {mo sp : Nat} {a b c : Gs} (h : OkG mo sp a b) (k : OkG mo sp b c) : OkG mo sp a c := ⟨Nat.le_trans h.1 k.1, k.2.1, Nat.le_trans h.2.2.1 k.2.2.1, k.2.2.2⟩
theorem OkG.own {mo sp : Nat} {a b : Gs} (h : OkG mo sp a b) : OkG mo sp b b := ⟨Nat.le_refl _, h.2.1, Nat.le_refl _, h.2.2.2⟩
theorem ok_lift {mo sp e p : Nat} {g : Gs} {r : Rs} (hg : OkG mo sp g g) (h : OkR mo sp e p g.1 g.2.1 r) : OkG mo sp g (lift r g.2.2.1 g.2.2.2).2.2.2 ∧ (lift r g.2.2.1 g.2.2.2).1 < 100 ∧ ((lift r g.2.2.1 g.2.2.2).1 = 0 → p + 2 ≤ (lift r g.2.2.1 g.2.2.2).2.2.1 ∧ (lift r g.2.2.1 g.2.2.2).2.2.1 ≤ e ∧ (lift r g.2.2.1 g.2.2.2).2.1 = -1) := by
  obtain ⟨h1, h2, h3, h4, h5, h6⟩ := h
  obtain ⟨g1, g2, g3, g4, g5, g6⟩ := hg
  exact ⟨⟨h1, h2, h3, h4, by show 4 * g.2.2.2 ≤ r.2.2.2.2; omega, g6⟩, h5, h6⟩
theorem ok_item {mo sp dp e oa dep p : Nat} {t : Nat → Nat} {ends : List Nat} {g : Gs} {nest : Nat → Nat → Nat → Gs → Pr} (hN : OkN mo sp nest) (hg : OkG mo sp g g) (hdp : dp ≤ 8) : OkG mo sp g (aItem nest t mo sp dp e oa dep p ends g).2.2.2 ∧ (aItem nest t mo sp dp e oa dep p ends g).1 < 100 ∧ ((aItem nest t mo sp dp e oa dep p ends g).1 = 0 → p + 2 ≤ (aItem nest t mo sp dp e oa dep p ends g).2.2.1 ∧ (aItem nest t mo sp dp e oa dep p ends g).2.2.1 ≤ e ∧ (aItem nest t mo sp dp e oa dep p ends g).2.1 = -1) := by
  have ho := hg.2.1
  have hc := hg.2.2.2.1
  have fl : ∀ (c w : Nat), c ≠ 0 → c < 100 → OkG mo sp g ((c, nI w, 0, g) : Nat × Int32 × Nat × Gs).2.2.2 ∧ ((c, nI w, 0, g) : Nat × Int32 × Nat × Gs).1 < 100 ∧ (((c, nI w, 0, g) : Nat × Int32 × Nat × Gs).1 = 0 → p + 2 ≤ ((c, nI w, 0, g) : Nat × Int32 × Nat × Gs).2.2.1 ∧ ((c, nI w, 0, g) : Nat × Int32 × Nat × Gs).2.2.1 ≤ e ∧ ((c, nI w, 0, g) : Nat × Int32 × Nat × Gs).2.1 = -1) := fun c w h0 h1 => ⟨hg, h1, fun q => absurd q h0⟩
  unfold aItem
  split
  · exact ok_lift hg (ok_stored ho hc)
  split
  · exact ok_lift hg (ok_run ho hc)
  split
  · exact ok_lift hg (ok_copy ho hc)
  split
  · unfold aNest
    split
    · exact fl _ _ (by decide) (by decide)
    split
    · exact fl _ _ (by decide) (by decide)
    split
    · exact fl _ _ (by decide) (by decide)
    split
    · exact fl _ _ (by decide) (by decide)
    rename_i h1 h2 h3 h4
    have hg1 : OkG mo sp g (g.1, g.2.1 + 3, g.2.2.1, g.2.2.2) := ⟨Nat.le_refl _, ho, by show g.2.1 ≤ g.2.1 + 3; omega, by show g.2.1 + 3 ≤ sp; omega, by have := hg.2.2.2.2.1; show 4 * g.2.2.2 ≤ g.2.1 + 3; omega, hg.2.2.2.2.2⟩
    obtain ⟨n1, n2, n3⟩ := hN (p + 3) (p + 3 + (256 * t (p + 1) + t (p + 2))) (dep + 1) _ hg1.own (by omega)
    exact ⟨hg1.tr n1, n2, fun q => ⟨by show p + 2 ≤ p + 3 + _; omega, by show p + 3 + _ ≤ e; omega, n3 q⟩⟩
  split
  · exact ok_lift hg (ok_note ho hc)
  split
  · exact ok_lift hg (ok_again ho hc)
  split
  · exact ok_lift hg (ok_coded ho hc)
  · exact fl _ _ (by decide) (by decide)
theorem ok_loop {mo sp dp fr e oa dep : Nat} {t : Nat → Nat} {nest : Nat → Nat → Nat → Gs → Pr} (hN : OkN mo sp nest) (hdp : dp ≤ 8) : ∀ (f p : Nat) (ends : List Nat) (g : Gs) (rc : Rc), OkG mo sp g g → OkG mo sp g (aLoop nest t mo sp dp fr e oa dep f p ends g rc).2.2.2.1 ∧ (aLoop nest t mo sp dp fr e oa dep f p ends g rc).1 < 100 ∧ ((aLoop nest t mo sp dp fr e oa dep f p ends g rc).1 = 0 → (aLoop nest t mo sp dp fr e oa dep f p ends g rc).2.1 = -1)
  | 0, p, ends, g, rc, hg => ⟨hg, (by decide : 0 < 100), fun _ => rfl⟩
  | f + 1, p, ends, g, rc, hg => by
    rw [aLoop]
    split
    · exact ⟨hg, (by decide : 3 < 100), fun q => (by cases q)⟩
    split
    · split
      · exact ⟨hg, (by decide : 3 < 100), fun q => (by cases q)⟩
      split
      · exact ⟨hg, (by decide : 9 < 100), fun q => (by cases q)⟩
      split
      · exact ⟨hg, (by decide : 10 < 100), fun q => (by cases q)⟩
      · exact ⟨hg, (by decide : 0 < 100), fun _ => rfl⟩
    obtain ⟨i1, i2, i3⟩ := ok_item (t := t) (e := e) (oa := oa) (dep := dep) (p := p) (ends := ends) hN hg hdp
    split
    · have h := ok_loop (t := t) (fr := fr) (e := e) (oa := oa) (dep := dep) hN hdp f (aItem nest t mo sp dp e oa dep p ends g).2.2.1 (ends ++ [(aItem nest t mo sp dp e oa dep p ends g).2.2.2.1.length - oa]) _ (aRec dep (t p) p g (aItem nest t mo sp dp e oa dep p ends g).2.2.2 (aItem nest t mo sp dp e oa dep p ends g).2.2.1 rc) i1.own
      exact ⟨i1.tr h.1, h.2⟩
    · rename_i h0
      exact ⟨i1, i2, fun q => absurd q h0⟩
theorem ok_pack {mo sp dp : Nat} {t : Nat → Nat} (hdp : dp ≤ 8) : ∀ (k fr e dep : Nat) (g : Gs) (rc : Rc), OkG mo sp g g → dep ≤ 8 → OkG mo sp g (aPack t mo sp dp k fr e dep g rc).2.2.2.1 ∧ (aPack t mo sp dp k fr e dep g rc).1 < 100 ∧ ((aPack t mo sp dp k fr e dep g rc).1 = 0 → (aPack t mo sp dp k fr e dep g rc).2.1 = -1)
  | 0, fr, e, dep, g, rc, hg, _ => ⟨hg, (by decide : 0 < 100), fun _ => rfl⟩
  | k + 1, fr, e, dep, g, rc, hg, hd => by
    rw [aPack]
    split
    · exact ⟨hg, (by decide : 12 < 100), fun q => (by cases q)⟩
    rename_i h0
    have hg1 : OkG mo sp g (aG1 dep g) := by
      obtain ⟨a1, a2, a3, a4, a5, a6⟩ := hg
      refine ⟨a1, a2, by show g.2.1 ≤ g.2.1 + 4; omega, by show g.2.1 + 4 ≤ sp; omega, by show 4 * (g.2.2.2 + 1) ≤ g.2.1 + 4; omega, ?_⟩
      show (if g.2.2.1 < dep then dep else g.2.2.1) ≤ 8
      split <;> omega
    split
    · exact ⟨hg1, (by decide : 3 < 100), fun q => (by cases q)⟩
    split
    · exact ⟨hg1, (by decide : 1 < 100), fun q => (by cases q)⟩
    split
    · exact ⟨hg1, (by decide : 3 < 100), fun q => (by cases q)⟩
    split
    · exact ⟨hg1, (by decide : 1 < 100), fun q => (by cases q)⟩
    · have h := ok_loop (t := t) (fr := fr) (e := e) (oa := g.1.length) (dep := dep) (nest := fun a b c d => aPack t mo sp dp k a b c d []) (fun a b c g' hg' hc => ok_pack hdp k a b c g' [] hg' hc) hdp 1300 (fr + 2) [] (aG1 dep g) rc hg1.own
      exact ⟨hg1.tr h.1, h.2⟩
theorem ok_nest {mo sp dp : Nat} {t : Nat → Nat} (hdp : dp ≤ 8) (k : Nat) : OkN mo sp (fun a b c d => aPack t mo sp dp k a b c d []) := fun a b c g hg hc => ok_pack hdp k a b c g [] hg hc
