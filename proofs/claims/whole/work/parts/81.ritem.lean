theorem RG.ri {M : Mm} {g : Gs} {fc : Nat} {fp : Int32} (h : RG M g fc fp) : RI M M g.1 g.2.1 fc fp := ⟨fun _ _ _ _ => rfl, fun _ _ _ _ _ => rfl, rfl, h.2.2.1, h.2.2.2.2.2.1, h.2.2.2.2.2.2, h.1, h.2.1⟩
theorem RI.rg {A M : Mm} {out : List Nat} {co fc dd bg : Nat} {fp : Int32} (h : RI A M out co fc fp) (h1 : A.1 31 11 = nI dd) (h2 : A.1 31 12 = nI bg) : RG M (out, co, dd, bg) fc fp := ⟨h.2.2.2.2.2.2.1, h.2.2.2.2.2.2.2, h.2.2.2.1, by rw [h.2.1 11 (by decide) (by decide) (by decide) (by decide)]; exact h1, by rw [h.2.1 12 (by decide) (by decide) (by decide) (by decide)]; exact h2, h.2.2.2.2.1, h.2.2.2.2.2.1⟩
theorem RI.fk {A M : Mm} {out : List Nat} {co fc d : Nat} {fp : Int32} (h : RI A M out co fc fp) : Fk d A M := ⟨fun c hc => h.1 c (by omega) (by omega) (by omega), fun c j a _ => by rw [h.1 c (by omega) (by omega) (by omega)], fun k _ => by rw [h.1 39 (by decide) (by decide) (by decide)], fun _ c a b => h.1 c (by omega) (by omega) (by omega), fun j hj => h.2.1 j (by omega) (by omega) (by omega) (by omega), h.2.2.1⟩
section
variable {t : Nat → Nat} {n mo sp dp d fr e oa p : Nat} {ends : List Nat} {g : Gs} {rc : Rc} {M : Mm}
/-- what an item of the reference leaves -/
def ResR (t : Nat → Nat) (d fr e oa : Nat) (ends : List Nat) (p : Nat) (g : Gs) (rc : Rc) (M : Mm) (r : Nat × Int32 × Nat × Gs) : Prop := (r.1 = 0 → RG M r.2.2.2 0 (-1) ∧ M.1 31 14 = nI (d + 1) ∧ RPk d fr e oa (ends ++ [r.2.2.2.1.length - oa]) r.2.2.1 M ∧ (d = 0 → IR M (aRec d (t p) p g r.2.2.2 r.2.2.1 rc))) ∧ (r.1 ≠ 0 → RG M r.2.2.2 r.1 r.2.1 ∧ RPk d fr e oa ends p M ∧ (d = 0 → IR M rc))
theorem r_finR {A : Mm} {x : Option Mm} {r : Rs} (hd : d ≤ 8) (hl : ends.length < 600) (hn : n ≤ 1200) (hpn : p < n) (h32 : ∀ i, i < n → A.1 32 i = nI (t i)) (hP : RPk d fr e oa ends p A) (htop : A.1 31 14 = nI (d + 1)) (h11 : A.1 31 11 = nI g.2.2.1) (h12 : A.1 31 12 = nI g.2.2.2) (h40 : A.1 40 d = nI p) (h41 : A.1 41 d = nI g.1.length) (h42 : A.1 42 d = nI g.2.1) (hoa : oa ≤ g.1.length) (hI : d = 0 → IR A rc ∧ rc.length = ends.length) (hR : RR A d x r) (hk : OkR mo sp e p g.1 g.2.1 r) :
    ∃ M', x = some M' ∧ Fk d A M' ∧ ResR t d fr e oa ends p g rc M' (lift r g.2.2.1 g.2.2.2) := by
  obtain ⟨M2, h2, hx⟩ := hR
  obtain ⟨k1, k2, k3, k4, k5, k6⟩ := hk
  have hc : ∀ c, c ≠ 31 → c ≠ 33 → c ≠ 47 → M2.1 c = A.1 c := h2.1
  have hG2 := h2.rg h11 h12
  have hP2 : RPk d fr e oa ends p M2 := by
    unfold RPk
    rw [hc 34 (by decide) (by decide) (by decide), hc 35 (by decide) (by decide) (by decide), hc 36 (by decide) (by decide) (by decide), hc 37 (by decide) (by decide) (by decide), hc 38 (by decide) (by decide) (by decide), hc 39 (by decide) (by decide) (by decide)]
    exact hP
  have hI2 : d = 0 → IR M2 rc := fun h0 => by
    unfold IR
    rw [hc 43 (by decide) (by decide) (by decide), hc 44 (by decide) (by decide) (by decide), hc 45 (by decide) (by decide) (by decide), hc 46 (by decide) (by decide) (by decide)]
    exact (hI h0).1
  by_cases h0 : r.1 = 0
  · rw [if_pos h0] at hx
    obtain ⟨M', e1, p1, i1, c1, f1⟩ := r_ends (t := t) (n := n) (ol := r.2.2.2.1.length) (ol0 := g.1.length) (co := r.2.2.2.2) (co0 := g.2.1) (p' := r.2.2.1) (rc := rc) hd hl hP2 h2.2.2.2.2.2.2.1 h2.2.2.2.1 (Nat.le_trans hoa k1) hn hpn (fun i hi => by rw [hc 32 (by decide) (by decide) (by decide)]; exact h32 i hi) (fun h0 => ⟨by rw [hc 40 (by decide) (by decide) (by decide), ← h0]; exact h40, by rw [hc 41 (by decide) (by decide) (by decide), ← h0]; exact h41, by rw [hc 42 (by decide) (by decide) (by decide), ← h0]; exact h42, k1, k3, hI2 h0, (hI h0).2⟩)
    refine ⟨M', hx.trans e1, h2.fk.tr f1, fun _ => ⟨?_, ?_, p1, ?_⟩, fun q => absurd h0 q⟩
    · unfold RG
      rw [c1 31 (by decide), c1 33 (by decide)]
      have q := k6 h0
      rw [h0, q.2.2] at hG2
      exact hG2
    · rw [c1 31 (by decide), h2.2.1 14 (by decide) (by decide) (by decide) (by decide)]; exact htop
    · intro hd0
      unfold aRec
      rw [if_pos hd0]
      exact i1 hd0
  · rw [if_neg h0] at hx
    exact ⟨M2, hx, h2.fk, fun q => absurd q h0, fun _ => ⟨hG2, hP2, hI2⟩⟩
/-- the item's start -/
def M13 (d p : Nat) (g : Gs) (M : Mm) : Mm := st (st (st M 40 d (nI p)) 41 d (nI g.1.length)) 42 d (nI g.2.1)
theorem m13_ne {c : Nat} (h : c < 40 ∨ 42 < c) : (M13 d p g M).1 c = M.1 c := by
  unfold M13
  rw [st_ne (by omega), st_ne (by omega), st_ne (by omega)]
theorem m13_fk : Fk d M (M13 d p g M) := by
  refine ⟨fun c hc => m13_ne (by omega), fun c j a b => ?_, fun k _ => by rw [m13_ne (by decide)], fun _ c a b => m13_ne (by omega), fun j _ => by rw [m13_ne (by decide)], rfl⟩
  unfold M13
  by_cases h42 : c = 42
  · rw [h42, st_eq, upd_n (by omega), st_ne (by decide), st_ne (by decide)]
  · rw [st_ne h42]
    by_cases h41 : c = 41
    · rw [h41, st_eq, upd_n (by omega), st_ne (by decide)]
    · rw [st_ne h41]
      by_cases h40 : c = 40
      · rw [h40, st_eq, upd_n (by omega)]
      · rw [st_ne h40]
theorem r_item0 (B : RB t n mo sp dp M) (hG : RG M g 0 (-1)) (htop : M.1 31 14 = nI (d + 1)) (hP : RPk d fr e oa ends p M) (hd : d ≤ 8) (he : e ≤ n) (hpe : e ≤ p) (hp2 : p < 100000) : ∃ M', rX7_item M = some M' ∧ RG M' g 3 (nI e) ∧ RI M M' g.1 g.2.1 3 (nI e) := by
  obtain ⟨b1, b2, b3, b4, b5, b6, b7, b8, b9⟩ := B
  have BB : Br t n mo sp d e M := ⟨b1, b2, b3, b4, hd, he, b6, b7, b8, htop, hP.2.1⟩
  obtain ⟨M1, e1, h1⟩ := rv_has0 BB hG.ri (a := p) (k := 1) (by omega) (by omega)
  refine ⟨M1, ?_, h1.rg hG.2.2.2.1 hG.2.2.2.2.1, h1⟩
  unfold rX7_item
  have ng : ¬ (nI d < 0 ∨ 10 ≤ d) := fun q => q.elim (nI_pos (by omega)) (by omega)
  rw [htop, k_1, pk_sub (by omega), Nat.add_sub_cancel, lt_e, nI_clamp (n := d) (by omega), if_neg ng, hP.2.2.1, lt_e, e1]
  rfl
theorem r_itemU (B : RB t n mo sp dp M) (hG : RG M g 0 (-1)) (htop : M.1 31 14 = nI (d + 1)) (hP : RPk d fr e oa ends p M) (hd : d ≤ 8) (he : e ≤ n) (hpe : p < e) : rX7_item M = (if nI (t p) = 0 then (rX7_closes (nI d) (nI p) (M13 d p g M)) else if nI (t p) = 1 then (bd2 (rX7_has (nI p) 2 (M13 d p g M)) fun r21 M20 => if r21 = 0 then some M20 else (if (nI p + 1) < 0 ∨ 1200 ≤ (nI p + 1).toNatClampNeg then none else bd2 (rX7_has (nI p) (2 + (M20.1 32 (nI p + 1).toNatClampNeg)) M20) fun r26 M25 => if r26 = 0 then some M25 else (if (nI p + 1) < 0 ∨ 1200 ≤ (nI p + 1).toNatClampNeg then none else if nI p < 0 ∨ 1200 ≤ (nI p).toNatClampNeg then none else if (M25.1 32 (nI p).toNatClampNeg) = 1 then (rX7_item_b166 (nI d) (nI p) 2 (M25.1 32 (nI p + 1).toNatClampNeg) 2 (nI p) M25) else (rX7_item_b166 (nI d) (nI p) 1 (M25.1 32 (nI p + 1).toNatClampNeg) 2 (nI p) M25)))) else if nI (t p) = 2 then (bd2 (rX7_has (nI p) 3 (M13 d p g M)) fun r52 M51 => if r52 = 0 then some M51 else (if (nI p + 1) < 0 ∨ 1200 ≤ (nI p + 1).toNatClampNeg then none else if (nI p + 1) < 0 ∨ 1200 ≤ (nI p + 1).toNatClampNeg then none else bd2 (rX7_pays (nI p) (3 + (M51.1 32 (nI p + 1).toNatClampNeg)) (M51.1 32 (nI p + 1).toNatClampNeg) M51) fun r58 M57 => if r58 = 0 then some M57 else (rX7_item_b297 FU (nI d) (nI p) 0 M57))) else if nI (t p) = 3 then rX7_copy (nI d) (nI p) (M13 d p g M) else if nI (t p) = 4 then rX7_nest (nI p) (M13 d p g M) else if nI (t p) = 5 then (bd2 (rX7_has (nI p) 2 (M13 d p g M)) fun r21 M20 => if r21 = 0 then some M20 else (if (nI p + 1) < 0 ∨ 1200 ≤ (nI p + 1).toNatClampNeg then none else bd2 (rX7_has (nI p) (2 + (M20.1 32 (nI p + 1).toNatClampNeg)) M20) fun r26 M25 => if r26 = 0 then some M25 else (if (nI p + 1) < 0 ∨ 1200 ≤ (nI p + 1).toNatClampNeg then none else if nI p < 0 ∨ 1200 ≤ (nI p).toNatClampNeg then none else if (M25.1 32 (nI p).toNatClampNeg) = 1 then (rX7_item_b166 (nI d) (nI p) 2 (M25.1 32 (nI p + 1).toNatClampNeg) 2 (nI p) M25) else (rX7_item_b166 (nI d) (nI p) 1 (M25.1 32 (nI p + 1).toNatClampNeg) 2 (nI p) M25)))) else if nI (t p) = 6 then rX7_again (nI d) (nI p) (M13 d p g M) else if nI (t p) = 7 then rX7_coded (nI d) (nI p) (M13 d p g M) else (rX7_fails 2 (nI p) (M13 d p g M))) := by
  obtain ⟨b1, b2, b3, b4, b5, b6, b7, b8, b9⟩ := B
  have BB : Br t n mo sp d e M := ⟨b1, b2, b3, b4, hd, he, b6, b7, b8, htop, hP.2.1⟩
  have e1 := rv_has1 BB hG.ri (a := p) (k := 1) (by omega)
  have ng : ¬ (nI d < 0 ∨ 10 ≤ d) := fun q => q.elim (nI_pos (by omega)) (by omega)
  have np : ¬ (nI p < 0 ∨ 1200 ≤ p) := fun q => q.elim (nI_pos (by omega)) (by omega)
  have hu : rX7_item M = rX7_item M := rfl
  conv at hu =>
    rhs
    unfold rX7_item
  rw [htop, show nI (d + 1) - 1 = nI d from by rw [k_1, pk_sub (by omega), Nat.add_sub_cancel], lt_e, nI_clamp (n := d) (by omega), if_neg ng, hP.2.2.1, lt_e, show rX7_has (nI p) 1 M = some (1, M) from e1, bd2_some, if_neg (show ¬ (1 : Int32) = 0 by decide), if_neg ng, lt_e, if_neg ng, lt_e, if_neg ng, lt_e] at hu
  have q4 : (st M 40 d (nI p)).1 31 4 = nI g.1.length := by rw [st_ne (by decide)]; exact hG.1
  have q10 : (st (st M 40 d (nI p)) 41 d (nI g.1.length)).1 31 10 = nI g.2.1 := by rw [st_ne (by decide), st_ne (by decide)]; exact hG.2.2.1
  rw [q4, q10, show st (st (st M 40 d (nI p)) 41 d (nI g.1.length)) 42 d (nI g.2.1) = M13 d p g M from rfl] at hu
  have t32 : (M13 d p g M).1 32 (nI p).toNatClampNeg = nI (t p) := by rw [nI_clamp (n := p) (by omega), m13_ne (by decide)]; exact b6 p (by omega)
  rw [if_neg (nocl (a := p) (k := 1200) (by omega) (by decide)), t32] at hu
  simp only [bind_id] at hu
  exact hu
end
