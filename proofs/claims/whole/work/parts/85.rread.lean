section
variable {t : Nat → Nat} {n mo sp dp : Nat}
theorem mkr_9 {fr e : Nat} : (mkr t fr e).1 < 100 := by
  unfold mkr
  split
  · exact (by decide : 3 < 100)
  split
  · exact (by decide : 1 < 100)
  split
  · exact (by decide : 3 < 100)
  split
  · exact (by decide : 1 < 100)
  · exact (by decide : 0 < 100)
theorem mkr_0 {fr e : Nat} (h : (mkr t fr e).1 = 0) : fr + 2 ≤ e ∧ (mkr t fr e).2 = -1 := by
  unfold mkr at h ⊢
  by_cases q1 : e ≤ fr
  · rw [if_pos q1] at h; cases h
  rw [if_neg q1] at h ⊢
  by_cases q2 : t fr ≠ 80
  · rw [if_pos q2] at h; cases h
  rw [if_neg q2] at h ⊢
  by_cases q3 : e ≤ fr + 1
  · rw [if_pos q3] at h; cases h
  rw [if_neg q3] at h ⊢
  by_cases q4 : t (fr + 1) ≠ 75
  · rw [if_pos q4] at h; cases h
  rw [if_neg q4]
  exact ⟨by omega, rfl⟩
theorem ok_g1 {d : Nat} {g : Gs} (hg : OkG mo sp g g) (hd : d ≤ 8) (h : ¬ sp < g.2.1 + 4) : OkG mo sp (aG1 d g) (aG1 d g) := by
  obtain ⟨a1, a2, a3, a4, a5, a6⟩ := hg
  refine ⟨Nat.le_refl _, a2, Nat.le_refl _, by show g.2.1 + 4 ≤ sp; omega, by show 4 * (g.2.2.2 + 1) ≤ g.2.1 + 4; omega, ?_⟩
  show (if g.2.2.1 < d then d else g.2.2.1) ≤ 8
  split <;> omega
theorem r_pack (hdp : dp ≤ 8) : ∀ (k d : Nat), 8 ≤ d + k → PackSim t n mo sp dp d (fun a b c x => aPack t mo sp dp k a b c x []) := by
  intro k
  induction k with
  | zero => intro d hk fr e g M B hG htop hfe he hg hd1; omega
  | succ k ih =>
    intro d hk fr e g M B hG htop hfe he hg hd1
    obtain ⟨M1, e1, f1, g1, g2⟩ := r_begins B hG htop (by omega) he hfe hg
    refine ⟨M1, e1, ?_⟩
    dsimp only
    rw [aPack_mkr]
    by_cases c1 : sp < g.2.1 + 4
    · rw [if_pos c1]
      obtain ⟨g3, -⟩ := g1 c1
      exact ⟨fun _ => ⟨0, M1, by omega, fun F => by rw [Nat.zero_add]; exact L_stop g3.2.2.2.2.2.1 (by decide) (by decide), g3, f1⟩, fun q => (by cases q)⟩
    rw [if_neg c1]
    obtain ⟨g3, g4, g5⟩ := g2 c1
    by_cases c2 : (mkr t fr e).1 ≠ 0
    · rw [if_pos c2]
      exact ⟨fun _ => ⟨0, M1, by omega, fun F => by rw [Nat.zero_add]; exact L_stop g3.2.2.2.2.2.1 c2 mkr_9, g3, f1⟩, fun q => absurd q c2⟩
    rw [if_neg c2]
    have c2' : (mkr t fr e).1 = 0 := Classical.not_not.mp c2
    obtain ⟨m1, m2⟩ := mkr_0 c2'
    rw [c2', m2] at g3
    have hs := r_loop (fr := fr) (oa := g.1.length) (e := e) (d := d + 1) (fun a b c x => aPack t mo sp dp k a b c x []) (ok_nest hdp k) (ih (d + 1) (by omega)) hd1 he 1300 (fr + 2) [] (aG1 (d + 1) g) [] M1 (by have := B.1; omega) m1 (by omega) (by simp) (B.mv f1) g3 g4 g5 (ok_g1 hg hd1 c1) (Nat.le_refl _) (fun k hk => (by cases hk)) (fun h => absurd h (by omega))
    constructor
    · intro q
      obtain ⟨N, M', x1, x2, x3, x4, -⟩ := hs.1 q
      exact ⟨N, M', by omega, x2, x3, f1.tr x4⟩
    · intro q
      obtain ⟨N, Mx, x1, x2, x3, x4, -, x5⟩ := hs.2 q
      exact ⟨N, Mx, by omega, x2, x3, f1.tr x4, x5 (by omega)⟩
def TpR (t : Nat → Nat) (n : Nat) (M : Mm) : Prop := n ≤ 1200 ∧ (∀ i, i < n → t i < 256) ∧ M.1 31 2 = nI n ∧ ∀ i, i < n → M.1 32 i = nI (t i)
/-- what a READ of the reference leaves -/
def RdR (M : Mm) (r : Pr) : Prop := RG M r.2.2.2.1 r.1 r.2.1 ∧ IR M r.2.2.2.2 ∧ M.1 38 0 = nI r.2.2.2.2.length ∧ (r.2.2.2.2.length ≠ 0 → M.1 36 0 = nI (2 + sl r.2.2.2.2))
theorem r_read {M : Mm} (hT : TpR t n M) (h1 : mo ≤ 4000) (h2 : sp ≤ 20000) (h3 : dp ≤ 8) :
    ∃ M', rX7_reads (nI mo) (nI sp) (nI dp) M = some M' ∧ RdR M' (aPack t mo sp dp 10 0 n 0 ([], 0, 0, 0) []) ∧ M'.1 31 13 = M.1 31 13 + 1 ∧ (∀ c, (c < 31 ∨ c = 32 ∨ 47 < c) → M'.1 c = M.1 c) ∧ M'.1 31 2 = M.1 31 2 ∧ M'.2 = M.2 := by
  obtain ⟨t1, t2, t3, t4⟩ := hT
  have hu : rX7_reads (nI mo) (nI sp) (nI dp) M = rX7_reads (nI mo) (nI sp) (nI dp) M := rfl
  conv at hu =>
    rhs
    unfold rX7_reads
    simp only [lt_e]
  rw [if_neg (show ¬ ((0 : Int32) < 0 ∨ 10 ≤ (0 : Int32).toNatClampNeg) by decide), show (0 : Int32).toNatClampNeg = 0 from by decide] at hu
  obtain ⟨MA, hMA⟩ : ∃ MA, MA = st (st (st (st (st (st (st (st (st (st (st (st M 31 13 (M.1 31 13 + 1)) 31 5 (nI mo)) 31 6 (nI sp)) 31 7 (nI dp)) 31 4 0) 31 8 0) 31 9 (-1)) 31 10 0) 31 11 0) 31 12 0) 31 14 0) 38 0 0 := ⟨_, rfl⟩
  rw [← hMA] at hu
  have h31 : MA.1 31 = upd (upd (upd (upd (upd (upd (upd (upd (upd (upd (upd (M.1 31) 13 (M.1 31 13 + 1)) 5 (nI mo)) 6 (nI sp)) 7 (nI dp)) 4 0) 8 0) 9 (-1)) 10 0) 11 0) 12 0) 14 0 := by
    rw [hMA, st_ne (show (31 : Nat) ≠ 38 by decide), st_eq, st_eq, st_eq, st_eq, st_eq, st_eq, st_eq, st_eq, st_eq, st_eq, st_eq]
  have hn : ∀ c, c ≠ 31 → c ≠ 38 → MA.1 c = M.1 c := fun c a b => by
    rw [hMA, st_ne b, st_ne a, st_ne a, st_ne a, st_ne a, st_ne a, st_ne a, st_ne a, st_ne a, st_ne a, st_ne a, st_ne a]
  have h38 : MA.1 38 0 = nI 0 := by rw [hMA, st_eq, upd_s]; rfl
  have hB : RB t n mo sp dp MA := by
    refine ⟨t1, t2, h1, h2, h3, fun i hi => by rw [hn 32 (by decide) (by decide)]; exact t4 i hi, ?_, ?_, ?_⟩
    · rw [h31]; rfl
    · rw [h31]; rfl
    · rw [h31]; rfl
  have hG : RG MA ([], 0, 0, 0) 0 (-1) := by
    refine ⟨?_, fun i hi => (by cases hi), ?_, ?_, ?_, ?_, ?_⟩
    · rw [h31]; rfl
    · rw [h31]; rfl
    · rw [h31]; rfl
    · rw [h31]; rfl
    · rw [h31]; rfl
    · rw [h31]; rfl
  have htop : MA.1 31 14 = nI 0 := by rw [h31]; rfl
  have h2' : MA.1 31 2 = nI n := by rw [h31]; exact t3
  have hg0 : OkG mo sp ([], 0, 0, 0) ([], 0, 0, 0) := ⟨Nat.le_refl _, Nat.zero_le _, Nat.le_refl _, Nat.zero_le _, by decide, by decide⟩
  obtain ⟨M1, e1, f1, g1, g2⟩ := r_begins (fr := 0) hB hG htop (by decide) (Nat.le_refl n) (Nat.zero_le n) hg0
  rw [h2', show rX7_begins 0 (nI n) MA = some M1 from e1, Option.bind_some] at hu
  have done : ∀ {M' : Mm}, rX7_reads_b76 FU M1 = some M' → Fk 0 MA M' → RdR M' (aPack t mo sp dp 10 0 n 0 ([], 0, 0, 0) []) → ∃ M', rX7_reads (nI mo) (nI sp) (nI dp) M = some M' ∧ RdR M' (aPack t mo sp dp 10 0 n 0 ([], 0, 0, 0) []) ∧ M'.1 31 13 = M.1 31 13 + 1 ∧ (∀ c, (c < 31 ∨ c = 32 ∨ 47 < c) → M'.1 c = M.1 c) ∧ M'.1 31 2 = M.1 31 2 ∧ M'.2 = M.2 := by
    intro M' e2 f2 r2
    refine ⟨M', hu.trans e2, r2, ?_, fun c hc => ?_, ?_, ?_⟩
    · rw [f2.2.2.2.2.1 13 (by decide), h31]; rfl
    · rw [f2.1 c hc, hn c (by omega) (by omega)]
    · rw [f2.2.2.2.2.1 2 (by decide), h31]; rfl
    · rw [f2.2.2.2.2.2, hMA]; rfl
  have hfu : FU = 99999 + 1 := rfl
  by_cases c1 : sp < 0 + 4
  · obtain ⟨g3, g4⟩ := g1 c1
    have hA : aPack t mo sp dp 10 0 n 0 ([], 0, 0, 0) [] = (12, nI 0, 0, ([], 0, 0, 0), []) := by rw [aPack_mkr, if_pos c1]
    refine done (by rw [hfu]; exact L_stop g3.2.2.2.2.2.1 (by decide) (by decide)) f1 ?_
    rw [hA]
    exact ⟨g3, fun k hk => (by cases hk), by rw [g4]; exact h38, fun q => absurd rfl q⟩
  obtain ⟨g3, g4, g5⟩ := g2 c1
  by_cases c2 : (mkr t 0 n).1 ≠ 0
  · have hA : aPack t mo sp dp 10 0 n 0 ([], 0, 0, 0) [] = ((mkr t 0 n).1, (mkr t 0 n).2, 0, aG1 0 ([], 0, 0, 0), []) := by rw [aPack_mkr, if_neg c1, if_pos c2]
    refine done (by rw [hfu]; exact L_stop g3.2.2.2.2.2.1 c2 mkr_9) f1 ?_
    rw [hA]
    exact ⟨g3, fun k hk => (by cases hk), g5.2.2.2.2.1, fun q => absurd rfl q⟩
  have c2' : (mkr t 0 n).1 = 0 := Classical.not_not.mp c2
  obtain ⟨m1, m2⟩ := mkr_0 c2'
  rw [c2', m2] at g3
  have hA : aPack t mo sp dp 10 0 n 0 ([], 0, 0, 0) [] = aLoop (fun a b c x => aPack t mo sp dp 9 a b c x []) t mo sp dp 0 n 0 0 1300 2 [] (aG1 0 ([], 0, 0, 0)) [] := by rw [aPack_mkr, if_neg c1, if_neg c2]; rfl
  have hs := r_loop (fr := 0) (oa := 0) (e := n) (d := 0) (fun a b c x => aPack t mo sp dp 9 a b c x []) (ok_nest h3 9) (r_pack h3 9 0 (by decide)) (by decide) (Nat.le_refl n) 1300 2 [] (aG1 0 ([], 0, 0, 0)) [] M1 (by omega) (by omega) (by decide) (by decide) (hB.mv f1) g3 g4 g5 (ok_g1 hg0 (by decide) c1) (Nat.le_refl _) (fun k hk => (by cases hk)) (fun _ => ⟨fun k hk => (by cases hk), rfl, rfl⟩)
  rw [← hA] at hs
  by_cases q : (aPack t mo sp dp 10 0 n 0 ([], 0, 0, 0) []).1 = 0
  · obtain ⟨N, Mx, x1, x2, x3, x4, x5, -⟩ := hs.2 q
    obtain ⟨y1, y2⟩ := x5 rfl
    have z := y2 (FU - N)
    rw [show N + (FU - N) = FU by unfold FU; omega] at z
    obtain ⟨F, hF⟩ : ∃ F, FU - N = F + 1 := ⟨FU - N - 1, by unfold FU; omega⟩
    rw [hF, L_end x2.2.2.2.2.2.1 x3] at z
    refine done z (f1.tr x4) ⟨?_, y1.1, y1.2.1, fun _ => y1.2.2⟩
    rw [q, (ok_pack (t := t) h3 10 0 n 0 ([], 0, 0, 0) [] hg0 (by decide)).2.2 q]
    exact x2
  · obtain ⟨N, M', x1, x2, x3, x4, x5⟩ := hs.1 q
    have z := x2 (FU - N - 1)
    rw [show N + (FU - N - 1) + 1 = FU by unfold FU; omega] at z
    exact done z (f1.tr x4) ⟨x3, (x5 rfl).1, (x5 rfl).2.1, fun _ => (x5 rfl).2.2⟩
end
