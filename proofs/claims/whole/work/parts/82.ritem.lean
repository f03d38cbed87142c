section
variable {t : Nat → Nat} {n mo sp dp d fr e oa p : Nat} {ends : List Nat} {g : Gs} {rc : Rc} {M : Mm}
theorem m13_P (hP : RPk d fr e oa ends p M) : RPk d fr e oa ends p (M13 d p g M) := by
  unfold RPk
  rw [m13_ne (by decide), m13_ne (by decide), m13_ne (by decide), m13_ne (by decide), m13_ne (by decide), m13_ne (by decide)]
  exact hP
theorem m13_G {fc : Nat} {fp : Int32} (hG : RG M g fc fp) : RG (M13 d p g M) g fc fp := by
  unfold RG
  rw [m13_ne (by decide), m13_ne (by decide)]
  exact hG
theorem m13_I (hI : IR M rc) : IR (M13 d p g M) rc := by
  unfold IR
  rw [m13_ne (by decide), m13_ne (by decide), m13_ne (by decide), m13_ne (by decide)]
  exact hI
theorem m13_B (B : RB t n mo sp dp M) : RB t n mo sp dp (M13 d p g M) := B.mv m13_fk
theorem r_item1 (nest : Nat → Nat → Nat → Gs → Pr) (B : RB t n mo sp dp M) (hG : RG M g 0 (-1)) (htop : M.1 31 14 = nI (d + 1)) (hP : RPk d fr e oa ends p M) (hd : d ≤ 8) (he : e ≤ n) (hpe : p < e) (hg : OkG mo sp g g) (hoa : oa ≤ g.1.length) (hl : ends.length < 600) (hen : ∀ k, k < ends.length → oa + ends.getD k 0 ≤ g.1.length) (hI : d = 0 → IR M rc ∧ rc.length = ends.length) (h0 : t p ≠ 0) (h4 : t p ≠ 4) : ∃ M', rX7_item M = some M' ∧ Fk d M M' ∧ ResR t d fr e oa ends p g rc M' (aItem nest t mo sp dp e oa d p ends g) := by
  rw [r_itemU B hG htop hP hd he hpe]
  obtain ⟨b1, b2, b3, b4, b5, b6, b7, b8, b9⟩ := id B
  have ho := hg.2.1
  have hc := hg.2.2.2.1
  have tb := b2 p (by omega)
  obtain ⟨c1, c2, c3, c4, c5, c6, c7, c8, c9⟩ := m13_B (d := d) (p := p) (g := g) B
  have hP3 : RPk d fr e oa ends p (M13 d p g M) := m13_P hP
  have ht3 : (M13 d p g M).1 31 14 = nI (d + 1) := by rw [m13_ne (by decide)]; exact htop
  have BB : Br t n mo sp d e (M13 d p g M) := ⟨b1, b2, b3, b4, hd, he, c6, c7, c8, ht3, hP3.2.1⟩
  have hG3 : RG (M13 d p g M) g 0 (-1) := m13_G hG
  have hR := hG3.ri
  have h40 : (M13 d p g M).1 40 d = nI p := by unfold M13; rw [st_ne (by decide), st_ne (by decide), st_eq, upd_s]
  have h41 : (M13 d p g M).1 41 d = nI g.1.length := by unfold M13; rw [st_ne (by decide), st_eq, upd_s]
  have h42 : (M13 d p g M).1 42 d = nI g.2.1 := by unfold M13; rw [st_eq, upd_s]
  have kk : ∀ {c : Nat}, c < 300 → (nI (t p) = nI c ↔ t p = c) := fun hc => nI_eq (by omega) (by omega)
  have fin : ∀ {x : Option Mm} {r : Rs}, RR (M13 d p g M) d x r → OkR mo sp e p g.1 g.2.1 r → ∃ M', x = some M' ∧ Fk d M M' ∧ ResR t d fr e oa ends p g rc M' (lift r g.2.2.1 g.2.2.2) := by
    intro x r hr hk
    obtain ⟨M', e1, f1, r1⟩ := r_finR (n := n) hd hl b1 (by omega) c6 hP3 ht3 hG3.2.2.2.1 hG3.2.2.2.2.1 h40 h41 h42 hoa (fun q => ⟨m13_I (hI q).1, (hI q).2⟩) hr hk
    exact ⟨M', e1, m13_fk.tr f1, r1⟩
  unfold aItem
  rw [if_neg (show ¬ nI (t p) = 0 from fun q => h0 ((kk (c := 0) (by decide)).mp q))]
  by_cases d1 : t p = 1
  · rw [if_pos (show nI (t p) = 1 from (kk (c := 1) (by decide)).mpr d1), if_pos d1]
    have := r_sn BB hR (Or.inl d1) hpe ho hc
    rw [if_pos d1] at this
    exact fin this (ok_stored ho hc)
  rw [if_neg (show ¬ nI (t p) = 1 from fun q => d1 ((kk (c := 1) (by decide)).mp q)), if_neg d1]
  by_cases d2 : t p = 2
  · rw [if_pos (show nI (t p) = 2 from (kk (c := 2) (by decide)).mpr d2), if_pos d2]
    exact fin (r_run BB hR hpe ho hc) (ok_run ho hc)
  rw [if_neg (show ¬ nI (t p) = 2 from fun q => d2 ((kk (c := 2) (by decide)).mp q)), if_neg d2]
  by_cases d3 : t p = 3
  · rw [if_pos (show nI (t p) = 3 from (kk (c := 3) (by decide)).mpr d3), if_pos d3]
    exact fin (r_copy BB hP3.2.2.2.1 hR hpe ho hoa hc) (ok_copy ho hc)
  rw [if_neg (show ¬ nI (t p) = 3 from fun q => d3 ((kk (c := 3) (by decide)).mp q)), if_neg d3, if_neg (show ¬ nI (t p) = 4 from fun q => h4 ((kk (c := 4) (by decide)).mp q)), if_neg h4]
  by_cases d5 : t p = 5
  · rw [if_pos (show nI (t p) = 5 from (kk (c := 5) (by decide)).mpr d5), if_pos d5]
    have := r_sn BB hR (Or.inr d5) hpe ho hc
    rw [if_neg d1] at this
    exact fin this (ok_note ho hc)
  rw [if_neg (show ¬ nI (t p) = 5 from fun q => d5 ((kk (c := 5) (by decide)).mp q)), if_neg d5]
  by_cases d6 : t p = 6
  · rw [if_pos (show nI (t p) = 6 from (kk (c := 6) (by decide)).mpr d6), if_pos d6]
    exact fin (r_again BB hP3.2.2.2.1 hP3.2.2.2.2.1 hl (fun k hk => ⟨hP3.2.2.2.2.2 k hk, hen k hk⟩) hR hpe ho hc) (ok_again ho hc)
  rw [if_neg (show ¬ nI (t p) = 6 from fun q => d6 ((kk (c := 6) (by decide)).mp q)), if_neg d6]
  by_cases d7 : t p = 7
  · rw [if_pos (show nI (t p) = 7 from (kk (c := 7) (by decide)).mpr d7), if_pos d7]
    exact fin (r_coded BB hR hpe ho hc) (ok_coded ho hc)
  rw [if_neg (show ¬ nI (t p) = 7 from fun q => d7 ((kk (c := 7) (by decide)).mp q)), if_neg d7]
  obtain ⟨f1, f2⟩ := hR.fl 2 (nI p)
  exact fin (x := rX7_fails 2 (nI p) (M13 d p g M)) (by rw [k_2, f1]; exact RR.no f2 (by decide)) (OkR.fll (e := e) (p := p) (c := 2) (w := p) ho hc (by decide) (by decide))
/-- the marks -/
def mkr (t : Nat → Nat) (fr e : Nat) : Nat × Int32 := if e ≤ fr then (3, nI e) else if t fr ≠ 80 then (1, nI fr) else if e ≤ fr + 1 then (3, nI e) else if t (fr + 1) ≠ 75 then (1, nI (fr + 1)) else (0, -1)
theorem aPack_mkr {k : Nat} {rc : Rc} : aPack t mo sp dp (k + 1) fr e d g rc = if sp < g.2.1 + 4 then (12, nI fr, 0, g, rc) else if (mkr t fr e).1 ≠ 0 then ((mkr t fr e).1, (mkr t fr e).2, 0, aG1 d g, rc) else aLoop (fun a b c x => aPack t mo sp dp k a b c x []) t mo sp dp fr e g.1.length d 1300 (fr + 2) [] (aG1 d g) rc := by
  rw [aPack]
  unfold mkr
  by_cases h0 : sp < g.2.1 + 4
  · rw [if_pos h0, if_pos h0]
  rw [if_neg h0, if_neg h0]
  by_cases h1 : e ≤ fr
  · rw [if_pos h1, if_pos h1]; rfl
  rw [if_neg h1, if_neg h1]
  by_cases h2 : t fr ≠ 80
  · rw [if_pos h2, if_pos h2]; rfl
  rw [if_neg h2, if_neg h2]
  by_cases h3 : e ≤ fr + 1
  · rw [if_pos h3, if_pos h3]; rfl
  rw [if_neg h3, if_neg h3]
  by_cases h4 : t (fr + 1) ≠ 75
  · rw [if_pos h4, if_pos h4]; rfl
  rw [if_neg h4, if_neg h4]; rfl
theorem mk_stop {x1 x2 x3 : Int32} {f fc : Nat} (h : M.1 31 8 = nI fc) (h0 : fc ≠ 0) (h1 : fc < 100) : rX7_begins_b134 (f + 1) x1 x2 x3 M = some M := by
  show rX7_begins_b134_s (rX7_begins_b134 f) x1 x2 x3 M = _
  unfold rX7_begins_b134_s
  rw [h, if_neg (nI_ne0 (by omega) (by omega)), ite_self]
theorem mk_step (B : RB t n mo sp dp M) (hG : RG M g 0 (-1)) (he : e ≤ n) {f i : Nat} (hi : i < 2) (hfr : fr < 100000) : ∃ M', RI M M' g.1 g.2.1 (if e ≤ fr + i then 3 else if t (fr + i) ≠ (if i = 0 then 80 else 75) then 1 else 0) (if e ≤ fr + i then nI e else if t (fr + i) ≠ (if i = 0 then 80 else 75) then nI (fr + i) else -1) ∧ rX7_begins_b134 (f + 1) (nI fr) (nI e) (nI i) M = rX7_begins_b134 f (nI fr) (nI e) (nI (i + 1)) M' := by
  obtain ⟨b1, b2, b3, b4, b5, b6, b7, b8, b9⟩ := B
  have hu : rX7_begins_b134 (f + 1) (nI fr) (nI e) (nI i) M = rX7_begins_b134_s (rX7_begins_b134 f) (nI fr) (nI e) (nI i) M := rfl
  unfold rX7_begins_b134_s rX7_begins_b181 rX7_begins_b192 at hu
  rw [if_neg (by rw [k_2, nI_leI (by omega) (by omega)]; omega), hG.2.2.2.2.2.1, if_pos (show nI 0 = 0 from rfl), nI_add] at hu
  by_cases c1 : e ≤ fr + i
  · obtain ⟨f1, f2⟩ := hG.ri.fl 3 (nI e)
    rw [if_neg (by rw [nI_ltI (by omega) (by omega)]; omega), k_3, f1, Option.bind_some, lt_e, k_1, nI_add] at hu
    rw [if_pos c1, if_pos c1]
    exact ⟨_, f2, hu⟩
  have t32 := b6 (fr + i) (by omega)
  have tb := b2 (fr + i) (by omega)
  rw [if_pos ((nI_ltI (by omega) (by omega)).mpr (by omega)), if_neg (nocl (a := fr + i) (by omega) (by decide)), nI_clamp (n := fr + i) (by omega), t32] at hu
  rw [if_neg c1, if_neg c1]
  obtain ⟨f1, f2⟩ := hG.ri.fl 1 (nI (fr + i))
  have key : ∀ v, v < 300 → (if nI (t (fr + i)) = nI v then (lt_ (nI i + 1) fun y23 => rX7_begins_b134 f (nI fr) (nI e) y23 M) else (Option.bind (rX7_fails 1 (nI (fr + i)) M) fun M25 => (lt_ (nI i + 1) fun y23 => rX7_begins_b134 f (nI fr) (nI e) y23 M25))) = if t (fr + i) ≠ v then rX7_begins_b134 f (nI fr) (nI e) (nI (i + 1)) (st (st M 31 8 (nI 1)) 31 9 (nI (fr + i))) else rX7_begins_b134 f (nI fr) (nI e) (nI (i + 1)) M := by
    intro v hv
    rw [show rX7_fails 1 (nI (fr + i)) M = rX7_fails (nI 1) (nI (fr + i)) M from rfl, f1, Option.bind_some, lt_e, lt_e, k_1, nI_add]
    by_cases c2 : t (fr + i) = v
    · rw [if_pos (by rw [c2]), if_neg (fun q => q c2)]
    · rw [if_neg (by rw [nI_eq (by omega) (by omega)]; exact c2), if_pos c2]
  have hv : (if i = 0 then 80 else 75) < 300 := by split <;> decide
  have hu2 : rX7_begins_b134 (f + 1) (nI fr) (nI e) (nI i) M = if t (fr + i) ≠ (if i = 0 then 80 else 75) then rX7_begins_b134 f (nI fr) (nI e) (nI (i + 1)) (st (st M 31 8 (nI 1)) 31 9 (nI (fr + i))) else rX7_begins_b134 f (nI fr) (nI e) (nI (i + 1)) M := by
    rw [← key _ hv]
    rw [hu]
    by_cases c3 : i = 0
    · subst c3
      rw [if_pos (show nI 0 = 0 from rfl)]
      rfl
    · rw [if_neg (nI_ne0 (by omega) (by omega)), if_neg c3]
      rfl
  rw [hu2]
  by_cases c2 : t (fr + i) ≠ (if i = 0 then 80 else 75)
  · rw [if_pos c2, if_pos c2, if_pos c2]
    exact ⟨_, f2, rfl⟩
  · rw [if_neg c2, if_neg c2, if_neg c2]
    exact ⟨M, hG.ri, rfl⟩
theorem r_marks (B : RB t n mo sp dp M) (hG : RG M g 0 (-1)) (he : e ≤ n) (hfr : fr < 90000) : ∃ M', RI M M' g.1 g.2.1 (mkr t fr e).1 (mkr t fr e).2 ∧ rX7_begins_b134 FU (nI fr) (nI e) 0 M = some M' := by
  obtain ⟨M1, r1, e1⟩ := mk_step B hG he (fr := fr) (f := 99999) (i := 0) (by decide) (by omega)
  have e1 : rX7_begins_b134 FU (nI fr) (nI e) 0 M = rX7_begins_b134 99999 (nI fr) (nI e) (nI 1) M1 := e1
  rw [e1]
  rw [Nat.add_zero, if_pos rfl] at r1
  unfold mkr
  by_cases c1 : e ≤ fr
  · rw [if_pos c1, if_pos c1] at r1
    rw [if_pos c1]
    exact ⟨M1, r1, mk_stop (f := 99998) r1.2.2.2.2.1 (by decide) (by decide)⟩
  rw [if_neg c1, if_neg c1] at r1
  rw [if_neg c1]
  by_cases c2 : t fr ≠ 80
  · rw [if_pos c2, if_pos c2] at r1
    rw [if_pos c2]
    exact ⟨M1, r1, mk_stop (f := 99998) r1.2.2.2.2.1 (by decide) (by decide)⟩
  rw [if_neg c2, if_neg c2] at r1
  rw [if_neg c2]
  have hG1 : RG M1 g 0 (-1) := r1.rg hG.2.2.2.1 hG.2.2.2.2.1
  have B1 : RB t n mo sp dp M1 := B.mv (d := 0) r1.fk
  obtain ⟨M2, r2, e2⟩ := mk_step B1 hG1 he (fr := fr) (f := 99998) (i := 1) (by decide) (by omega)
  have e2 : rX7_begins_b134 99999 (nI fr) (nI e) (nI 1) M1 = rX7_begins_b134 99998 (nI fr) (nI e) (nI 2) M2 := e2
  rw [e2]
  have r2' : ∀ {c : Nat} {w : Int32}, RI M1 M2 g.1 g.2.1 c w → RI M M2 g.1 g.2.1 c w := fun h => ⟨fun c a b d => (h.1 c a b d).trans (r1.1 c a b d), fun j a b d e => (h.2.1 j a b d e).trans (r1.2.1 j a b d e), h.2.2.1.trans r1.2.2.1, h.2.2.2⟩
  rw [if_neg (show ¬ (1 : Nat) = 0 by decide)] at r2
  by_cases c3 : e ≤ fr + 1
  · rw [if_pos c3, if_pos c3] at r2
    rw [if_pos c3]
    exact ⟨M2, r2' r2, mk_stop (f := 99997) r2.2.2.2.2.1 (by decide) (by decide)⟩
  rw [if_neg c3, if_neg c3] at r2
  rw [if_neg c3]
  by_cases c4 : t (fr + 1) ≠ 75
  · rw [if_pos c4, if_pos c4] at r2
    rw [if_pos c4]
    exact ⟨M2, r2' r2, mk_stop (f := 99997) r2.2.2.2.2.1 (by decide) (by decide)⟩
  rw [if_neg c4, if_neg c4] at r2
  rw [if_neg c4]
  refine ⟨M2, r2' r2, ?_⟩
  show rX7_begins_b134_s (rX7_begins_b134 99997) (nI fr) (nI e) (nI 2) M2 = _
  unfold rX7_begins_b134_s
  rw [if_pos (by decide)]
theorem r_begins (B : RB t n mo sp dp M) (hG : RG M g 0 (-1)) (htop : M.1 31 14 = nI d) (hd : d ≤ 9) (he : e ≤ n) (hfe : fr ≤ e) (hg : OkG mo sp g g) : ∃ M', rX7_begins (nI fr) (nI e) M = some M' ∧ Fk d M M' ∧ (sp < g.2.1 + 4 → RG M' g 12 (nI fr) ∧ M'.1 38 = M.1 38) ∧ (¬ sp < g.2.1 + 4 → RG M' (aG1 d g) (mkr t fr e).1 (mkr t fr e).2 ∧ M'.1 31 14 = nI (d + 1) ∧ RPk d fr e g.1.length [] (fr + 2) M') := by
  obtain ⟨b1, b2, b3, b4, b5, b6, b7, b8, b9⟩ := id B
  obtain ⟨g1, g2, g3, g4, g5, g6, g7⟩ := id hG
  have hc := hg.2.2.2.1
  have hbg := hg.2.2.2.2.1
  have hdd := hg.2.2.2.2.2
  have hu : rX7_begins (nI fr) (nI e) M = rX7_begins (nI fr) (nI e) M := rfl
  conv at hu =>
    rhs
    unfold rX7_begins
  rw [g3, b8, k_4, nI_add] at hu
  by_cases c1 : sp < g.2.1 + 4
  · obtain ⟨f1, f2⟩ := hG.ri.fl 12 (nI fr)
    rw [if_neg (by rw [nI_leI (by omega) (by omega)]; omega), k_12, f1] at hu
    exact ⟨_, hu, f2.fk, fun _ => ⟨f2.rg g4 g5, f2.1 38 (by decide) (by decide) (by decide)⟩, fun q => absurd c1 q⟩
  have ng : ¬ (nI d < 0 ∨ 10 ≤ d) := fun q => q.elim (nI_pos (by omega)) (by omega)
  have q12 : (st M 31 10 (nI (g.2.1 + 4))).1 31 12 = nI g.2.2.2 := by rw [st_eq, upd_n (by decide)]; exact g5
  rw [if_pos ((nI_leI (by omega) (by omega)).mpr (by omega)), lt_e, q12, k_1, nI_add, lt_e] at hu
  obtain ⟨M3, hM3⟩ : ∃ M3, M3 = st (st M 31 10 (nI (g.2.1 + 4))) 31 12 (nI (g.2.2.2 + 1)) := ⟨_, rfl⟩
  rw [← hM3] at hu
  have h31 : M3.1 31 = upd (upd (M.1 31) 10 (nI (g.2.1 + 4))) 12 (nI (g.2.2.2 + 1)) := by rw [hM3, st_eq, st_eq]
  have hn31 : ∀ c, c ≠ 31 → M3.1 c = M.1 c := fun c h => by rw [hM3, st_ne h, st_ne h]
  have q14 : M3.1 31 14 = nI d := by rw [h31, upd_n (by decide), upd_n (by decide)]; exact htop
  have q4 : M3.1 31 4 = nI g.1.length := by rw [h31, upd_n (by decide), upd_n (by decide)]; exact g1
  have q11 : M3.1 31 11 = nI g.2.2.1 := by rw [h31, upd_n (by decide), upd_n (by decide)]; exact g4
  obtain ⟨MA, hMA⟩ : ∃ MA, MA = st (st (st (st (st M3 34 d (nI fr)) 35 d (nI e)) 37 d (nI g.1.length)) 38 d 0) 36 d (nI (fr + 2)) := ⟨_, rfl⟩
  have hA31 : MA.1 31 = M3.1 31 := by rw [hMA, st_ne (by decide), st_ne (by decide), st_ne (by decide), st_ne (by decide), st_ne (by decide)]
  have hu2 : rX7_begins (nI fr) (nI e) M = rX7_begins_b119 (nI fr) (nI e) (nI (if g.2.2.1 < d then d else g.2.2.1)) MA := by
    rw [hu]
    simp only [q14, st_ne (show (31 : Nat) ≠ 34 by decide), st_ne (show (31 : Nat) ≠ 35 by decide), st_ne (show (31 : Nat) ≠ 36 by decide), st_ne (show (31 : Nat) ≠ 37 by decide), st_ne (show (31 : Nat) ≠ 38 by decide), nI_clamp (show d < 2 ^ 31 by omega), if_neg ng, lt_e, q4, q11, k_2, nI_add]
    by_cases c2 : g.2.2.1 < d
    · rw [if_neg (by rw [nI_leI (by omega) (by omega)]; omega), if_pos c2, hMA]
    · rw [if_pos ((nI_leI (by omega) (by omega)).mpr (by omega)), if_neg c2, hMA]
  unfold rX7_begins_b119 at hu2
  have qA : (st MA 31 11 (nI (if g.2.2.1 < d then d else g.2.2.1))).1 31 14 = nI d := by rw [st_eq, upd_n (by decide), hA31]; exact q14
  rw [lt_e, qA, k_1, nI_add, lt_e] at hu2
  obtain ⟨MB, hMB⟩ : ∃ MB, MB = st (st MA 31 11 (nI (if g.2.2.1 < d then d else g.2.2.1))) 31 14 (nI (d + 1)) := ⟨_, rfl⟩
  rw [← hMB] at hu2
  have hB31 : MB.1 31 = upd (upd (M3.1 31) 11 (nI (if g.2.2.1 < d then d else g.2.2.1))) 14 (nI (d + 1)) := by rw [hMB, st_eq, st_eq, hA31]
  have hBn : ∀ c, c ≠ 31 → MB.1 c = MA.1 c := fun c h => by rw [hMB, st_ne h, st_ne h]
  have hAn : ∀ c, (c < 34 ∨ 38 < c) → MA.1 c = M3.1 c := fun c h => by rw [hMA, st_ne (by omega), st_ne (by omega), st_ne (by omega), st_ne (by omega), st_ne (by omega)]
  have a34 : MA.1 34 = upd (M.1 34) d (nI fr) := by rw [hMA, st_ne (by decide), st_ne (by decide), st_ne (by decide), st_ne (by decide), st_eq, hn31 34 (by decide)]
  have a35 : MA.1 35 = upd (M.1 35) d (nI e) := by rw [hMA, st_ne (by decide), st_ne (by decide), st_ne (by decide), st_eq, st_ne (by decide), hn31 35 (by decide)]
  have a37 : MA.1 37 = upd (M.1 37) d (nI g.1.length) := by rw [hMA, st_ne (by decide), st_ne (by decide), st_eq, st_ne (by decide), st_ne (by decide), hn31 37 (by decide)]
  have a38 : MA.1 38 = upd (M.1 38) d 0 := by rw [hMA, st_ne (by decide), st_eq, st_ne (by decide), st_ne (by decide), st_ne (by decide), hn31 38 (by decide)]
  have a36 : MA.1 36 = upd (M.1 36) d (nI (fr + 2)) := by rw [hMA, st_eq, st_ne (by decide), st_ne (by decide), st_ne (by decide), st_ne (by decide), hn31 36 (by decide)]
  have fB : Fk d M MB := by
    refine ⟨fun c hcc => ?_, fun c j hcc hj => ?_, fun k _ => ?_, fun _ c a b => ?_, fun j hj => ?_, ?_⟩
    · rw [hBn c (by omega), hAn c (by omega), hn31 c (by omega)]
    · rw [hBn c (by omega)]
      rcases hcc with hcc | hcc
      · rcases (show c = 34 ∨ c = 35 ∨ c = 36 ∨ c = 37 ∨ c = 38 by omega) with rfl | rfl | rfl | rfl | rfl
        · rw [a34, upd_n (by omega)]
        · rw [a35, upd_n (by omega)]
        · rw [a36, upd_n (by omega)]
        · rw [a37, upd_n (by omega)]
        · rw [a38, upd_n (by omega)]
      · rw [hAn c (by omega), hn31 c (by omega)]
    · rw [hBn 39 (by decide), hAn 39 (by decide), hn31 39 (by decide)]
    · rw [hBn c (by omega), hAn c (by omega), hn31 c (by omega)]
    · rw [hB31, h31, upd_n (by omega), upd_n (by omega), upd_n (by omega), upd_n (by omega)]
    · rw [hMB, hMA, hM3]; rfl
  have gB : RG MB (aG1 d g) 0 (-1) := by
    refine ⟨?_, ?_, ?_, ?_, ?_, ?_, ?_⟩
    · rw [hB31, h31, upd_n (by decide), upd_n (by decide), upd_n (by decide), upd_n (by decide)]; exact g1
    · rw [hBn 33 (by decide), hAn 33 (by decide), hn31 33 (by decide)]; exact g2
    · rw [hB31, h31, upd_n (by decide), upd_n (by decide), upd_n (by decide), upd_s]; rfl
    · rw [hB31, upd_n (by decide), upd_s]; rfl
    · rw [hB31, h31, upd_n (by decide), upd_n (by decide), upd_s]; rfl
    · rw [hB31, h31, upd_n (by decide), upd_n (by decide), upd_n (by decide), upd_n (by decide)]; exact g6
    · rw [hB31, h31, upd_n (by decide), upd_n (by decide), upd_n (by decide), upd_n (by decide)]; exact g7
  obtain ⟨M', r1, e1⟩ := r_marks (B.mv fB) gB he (fr := fr) (by omega)
  refine ⟨M', hu2.trans e1, fB.tr r1.fk, fun q => absurd q c1, fun _ => ⟨r1.rg gB.2.2.2.1 gB.2.2.2.2.1, ?_, ?_⟩⟩
  · rw [r1.2.1 14 (by decide) (by decide) (by decide) (by decide), hB31, upd_s]
  · unfold RPk
    rw [r1.1 34 (by decide) (by decide) (by decide), r1.1 35 (by decide) (by decide) (by decide), r1.1 36 (by decide) (by decide) (by decide), r1.1 37 (by decide) (by decide) (by decide), r1.1 38 (by decide) (by decide) (by decide), hBn 34 (by decide), hBn 35 (by decide), hBn 36 (by decide), hBn 37 (by decide), hBn 38 (by decide), a34, a35, a36, a37, a38, upd_s, upd_s, upd_s, upd_s, upd_s]
    exact ⟨rfl, rfl, rfl, rfl, rfl, fun k hk => (by cases hk)⟩
end
