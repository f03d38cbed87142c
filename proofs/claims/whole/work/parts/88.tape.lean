/-- the class's tape and seed; all else as in M0 -/
def DC (M0 : Mm) (t : Nat → Nat) (n : Nat) (sd : Int64) (M : Mm) : Prop := TpC t n M ∧ M.2 4 1 = sd ∧ ∀ c, c ≠ 1 → c ≠ 2 → c ≠ 3 → M.1 c = M0.1 c
/-- the reference's tape and seed; all else as in M0 -/
def DR (M0 : Mm) (t : Nat → Nat) (n : Nat) (sd : Int64) (M : Mm) : Prop := TpR t n M ∧ M.2 31 0 = sd ∧ (∀ c, c ≠ 31 → c ≠ 32 → c ≠ 48 → c ≠ 49 → M.1 c = M0.1 c) ∧ ∀ j, j ≠ 2 → M.1 31 j = M0.1 31 j
def ap (t : Nat → Nat) (n b : Nat) : Nat → Nat := fun i => if i = n then b else t i
theorem ap_s {t : Nat → Nat} {n b : Nat} : ap t n b n = b := if_pos rfl
theorem ap_n {t : Nat → Nat} {n b i : Nat} (h : i ≠ n) : ap t n b i = t i := if_neg h
theorem ap_lt {t : Nat → Nat} {n k b : Nat} (hb : b < 256) (ht : ∀ i, i < n → i ≠ k → t i < 256) : ∀ i, i < n → ap t k b i < 256 := fun i hi => by
  by_cases q : i = k
  · rw [q, ap_s]; exact hb
  · rw [ap_n q]; exact ht i hi q
section
variable {M0 M : Mm} {t : Nat → Nat} {n : Nat} {sd : Int64}
theorem DC.to {t' : Nat → Nat} {n' : Nat} {sd' : Int64} {N : Mm} (h : DC M0 t n sd M) (hc : ∀ c, c ≠ 1 → c ≠ 2 → c ≠ 3 → N.1 c = M.1 c) (h2 : N.2 4 1 = sd') (T : TpC t' n' N) : DC M0 t' n' sd' N := ⟨T, h2, fun c a b d => (hc c a b d).trans (h.2.2 c a b d)⟩
theorem DR.to {t' : Nat → Nat} {n' : Nat} {sd' : Int64} {N : Mm} (h : DR M0 t n sd M) (hc : ∀ c, c ≠ 31 → c ≠ 32 → c ≠ 48 → c ≠ 49 → N.1 c = M.1 c) (hj : ∀ j, j ≠ 2 → N.1 31 j = M.1 31 j) (h2 : N.2 31 0 = sd') (T : TpR t' n' N) : DR M0 t' n' sd' N := ⟨T, h2, fun c a b d e => (hc c a b d e).trans (h.2.2.1 c a b d e), fun j a => (hj j a).trans (h.2.2.2 j a)⟩
theorem CJ.dc {r : Pr} {rd : Int32} (h : CJ t n sd r rd M) : DC M t n sd M := ⟨h.1, h.2.1, fun _ _ _ _ => rfl⟩
theorem RJ.dr {r : Pr} {rd : Int32} (h : RJ t n sd r rd M) : DR M t n sd M := ⟨h.1, h.2.1, fun _ _ _ _ _ => rfl, fun _ _ => rfl⟩
theorem CJ.to {t' : Nat → Nat} {n' : Nat} {sd' : Int64} {r : Pr} {rd : Int32} (h : CJ t n sd r rd M0) (hd : DC M0 t' n' sd' M) : CJ t' n' sd' r rd M := by
  obtain ⟨-, -, ⟨p', hv⟩, hi, h5⟩ := h
  obtain ⟨hT, hs, hc⟩ := hd
  refine ⟨hT, hs, ⟨p', ?_⟩, ?_, by rw [hc 5 (by decide) (by decide) (by decide)]; exact h5⟩
  · unfold VW
    rw [hc 5 (by decide) (by decide) (by decide), hc 6 (by decide) (by decide) (by decide), hc 7 (by decide) (by decide) (by decide)]
    exact hv
  · unfold IV
    rw [hc 9 (by decide) (by decide) (by decide), hc 10 (by decide) (by decide) (by decide), hc 11 (by decide) (by decide) (by decide), hc 12 (by decide) (by decide) (by decide), hc 13 (by decide) (by decide) (by decide), hc 14 (by decide) (by decide) (by decide)]
    exact hi
theorem RJ.to {t' : Nat → Nat} {n' : Nat} {sd' : Int64} {r : Pr} {rd : Int32} (h : RJ t n sd r rd M0) (hd : DR M0 t' n' sd' M) : RJ t' n' sd' r rd M := by
  obtain ⟨-, -, ⟨hg, hi, h38, h36⟩, h5⟩ := h
  obtain ⟨hT, hs, hc, h31⟩ := hd
  have c33 := hc 33 (by decide) (by decide) (by decide) (by decide)
  have c36 := hc 36 (by decide) (by decide) (by decide) (by decide)
  have c38 := hc 38 (by decide) (by decide) (by decide) (by decide)
  refine ⟨hT, hs, ⟨?_, ?_, by rw [c38]; exact h38, fun q => by rw [c36]; exact h36 q⟩, by rw [h31 13 (by decide)]; exact h5⟩
  · unfold RG
    rw [c33, h31 4 (by decide), h31 10 (by decide), h31 11 (by decide), h31 12 (by decide), h31 8 (by decide), h31 9 (by decide)]
    exact hg
  · unfold IR
    rw [hc 43 (by decide) (by decide) (by decide) (by decide), hc 44 (by decide) (by decide) (by decide) (by decide), hc 45 (by decide) (by decide) (by decide) (by decide), hc 46 (by decide) (by decide) (by decide) (by decide)]
    exact hi
theorem c_app (h : DC M0 t n sd M) {b : Nat} (hb : b < 256) (hn : n < 1200) : ∃ N, rX0_append 1 1200 1200 (nI b) M = some N ∧ DC M0 (ap t n b) (n + 1) sd N := by
  obtain ⟨h1, h2, h3, h4⟩ := h.1
  refine ⟨st (st M 2 n (nI b)) 1 1 (nI (n + 1)), ?_, h.to (fun c c1 c2 c3 => by rw [st_ne c1, st_ne c2]) h.2.1 ⟨by omega, ap_lt hb (fun i q w => h2 i (by omega)), by rw [st_eq, upd_s], fun i hi => ?_⟩⟩
  · unfold rX0_append
    have c1 : ¬ 1200 ≤ n := by omega
    have c2 : (st M 2 n (nI b)).1 1 1 = nI n := by rw [st_ne (by decide)]; exact h3
    simp (disch := omega) only [lt_e, bd2_some, Option.bind_some, k_0, k_1, k_2, k_3, k_4, k_5, k_6, k_7, k_8, k_9, k_10, k_11, k_12, k_13, k_15, k_20, k_60, k_75, k_80, k_127, k_128, k_255, k_256, k_600, k_1200, k_4000, k_20000, nI_leI, nI_ltI, nI_eq, nI_m1, Nat.not_lt_zero, Nat.zero_le, nI_add, pk_sub, nI_mul, nI_clamp, z_0, z_1, if_true, if_false, not_true_eq_false, not_false_eq_true, or_false, false_or, or_self, true_or, or_true, h3, c1, c2]
  · rw [st_ne (by decide), st_eq]
    by_cases q : i = n
    · rw [q, upd_s, ap_s]
    · rw [upd_n q, ap_n q]; exact h4 i (by omega)
theorem r_lay (h : DR M0 t n sd M) {b : Nat} (hb : b < 256) (hn : n < 1200) : ∃ N, rX7_lay (nI b) M = some N ∧ DR M0 (ap t n b) (n + 1) sd N := by
  obtain ⟨h1, h2, h3, h4⟩ := h.1
  refine ⟨st (st M 32 n (nI b)) 31 2 (nI (n + 1)), ?_, h.to (fun c c1 c2 c3 c4 => by rw [st_ne c1, st_ne c2]) (fun j hj => by rw [st_eq, upd_n hj, st_ne (by decide)]) h.2.1 ⟨by omega, ap_lt hb (fun i q w => h2 i (by omega)), by rw [st_eq, upd_s], fun i hi => ?_⟩⟩
  · unfold rX7_lay
    have c2 : (st M 32 n (nI b)).1 31 2 = nI n := by rw [st_ne (by decide)]; exact h3
    rw [h3, if_neg (nocl hn (by decide)), nI_clamp (by omega), lt_e, lt_e, c2, k_1, nI_add]
  · rw [st_ne (by decide), st_eq]
    by_cases q : i = n
    · rw [q, upd_s, ap_s]
    · rw [upd_n q, ap_n q]; exact h4 i (by omega)
theorem c_keep (h : DC M0 t n sd M) {j : Nat} (hj : j ≤ n) : ∃ N, rX0_keepFirst 1 1200 1200 (nI j) M = some N ∧ DC M0 t j sd N := by
  obtain ⟨h1, h2, h3, h4⟩ := h.1
  refine ⟨st M 1 1 (nI j), ?_, h.to (fun c c1 c2 c3 => by rw [st_ne c1]) h.2.1 ⟨by omega, fun i hi => h2 i (by omega), by rw [st_eq, upd_s], fun i hi => by rw [st_ne (by decide)]; exact h4 i (by omega)⟩⟩
  unfold rX0_keepFirst
  rw [h3, if_neg (show ¬ nI n < nI j by rw [nI_ltI (by omega) (by omega)]; omega), z_max (by omega)]
  rfl
theorem r_size (h : DR M0 t n sd M) {j : Nat} (hj : j ≤ n) : DR M0 t j sd (st M 31 2 (nI j)) := by
  obtain ⟨h1, h2, h3, h4⟩ := h.1
  exact h.to (fun c c1 c2 c3 c4 => by rw [st_ne c1]) (fun k hk => by rw [st_eq, upd_n hk]) h.2.1 ⟨by omega, fun i hi => h2 i (by omega), by rw [st_eq, upd_s], fun i hi => by rw [st_ne (by decide)]; exact h4 i (by omega)⟩
theorem c_get (h : DC M0 t n sd M) {i : Nat} (hi : i < n) : rX0_get 1 1200 1200 (nI i) M = some (nI (t i), M) := by
  obtain ⟨h1, h2, h3, h4⟩ := h.1
  rw [(get_any (x := nI i) (n2 := 1200) h3 h1 (by decide)).2.2 i hi rfl, show 1 + 1 = 2 from rfl, h4 i hi]
theorem c_put (h : DC M0 t n sd M) {i b : Nat} (hi : i < n) (hb : b < 256) : ∃ N, rX0_put 1 1200 1200 (nI i) (nI b) M = some N ∧ DC M0 (ap t i b) n sd N := by
  obtain ⟨h1, h2, h3, h4⟩ := h.1
  refine ⟨st M 2 i (nI b), ?_, h.to (fun c c1 c2 c3 => by rw [st_ne c2]) h.2.1 ⟨h1, ap_lt hb (fun j q w => h2 j q), by rw [st_ne (by decide)]; exact h3, fun j hj => ?_⟩⟩
  · unfold rX0_put
    rw [if_neg (nI_pos (by omega)), h3, if_neg (nI_ge hi (by omega)), if_neg (nocl (by omega) (by decide)), nI_clamp (by omega)]
    rfl
  · rw [st_eq]
    by_cases q : j = i
    · rw [q, upd_s, ap_s]
    · rw [upd_n q, ap_n q]; exact h4 j hj
theorem r_put (h : DR M0 t n sd M) {i b : Nat} (hi : i < n) (hb : b < 256) : DR M0 (ap t i b) n sd (st M 32 i (nI b)) := by
  obtain ⟨h1, h2, h3, h4⟩ := h.1
  refine h.to (fun c c1 c2 c3 c4 => by rw [st_ne c2]) (fun k hk => by rw [st_ne (by decide)]) h.2.1 ⟨h1, ap_lt hb (fun j q w => h2 j q), by rw [st_ne (by decide)]; exact h3, fun j hj => ?_⟩
  rw [st_eq]
  by_cases q : j = i
  · rw [q, upd_s, ap_s]
  · rw [upd_n q, ap_n q]; exact h4 j hj
theorem c_sum (h : DC M0 t n sd M) {fr q : Nat} (hq : fr ≤ q) (hqn : q ≤ n) : rX0_checkOf 1 1200 1200 (nI fr) (nI q) M = some (nI (sm t fr (q - fr) % 256), M) := e_chk h.1.1 h.1.2.1 h.1.2.2.1 h.1.2.2.2 hq hqn
theorem d_sum (h : DR M0 t n sd M) {fr q : Nat} (hq : fr ≤ q) (hqn : q ≤ n) : rX7_sumOf (nI fr) (nI q) M = some (nI (sm t fr (q - fr) % 256), M) := r_sum h.1.1 h.1.2.1 h.1.2.2.2 hq hqn
end
section
variable {Mc Mr : Mm}
theorem s_cut (h : JJ Mc Mr) (a : Int32) : Step2 (rX6_cut a) (rX7_cut a) Mc Mr := by
  obtain ⟨t, n, sd, r, rd, hc, hr, h1⟩ := id h
  have t3 := hc.1.2.2.1
  have u3 := hr.1.2.2.1
  have hn := hc.1.1
  have e1 : rX6_cut a Mc = (if a < 0 then some (-2, Mc) else (if a ≤ nI n then (Option.bind (rX0_keepFirst 1 1200 1200 a Mc) fun M5 => some (nI n - a, M5)) else some (-2, Mc))) := by
    unfold rX6_cut; rw [t3]; rfl
  have e2 : rX7_cut a Mr = (bd2 (rX7_in a.toInt64 0 (nI n).toInt64 Mr) fun r3 M2 => if r3 = 0 then some (-2, M2) else some (M2.1 31 2 - a, st M2 31 2 a)) := by
    unfold rX7_cut; rw [u3]; rfl
  rcases pk_ix a (n := n + 1) (by omega) with q | q | ⟨j, hj, q⟩
  · exact ⟨-2, Mc, Mr, by rw [e1, if_pos q], by rw [e2, in_neg q (by decide)]; rfl, h⟩
  · have q' : nI n < a := by
      rw [Int32.lt_iff_toInt_lt, nI_toInt (by omega)]
      rw [Int32.le_iff_toInt_le, nI_toInt (by omega)] at q
      omega
    have q2 : ¬ a ≤ nI n := by
      rw [Int32.le_iff_toInt_le]
      rw [Int32.lt_iff_toInt_lt] at q'
      omega
    exact ⟨-2, Mc, Mr, by rw [e1, if_neg q2, ite_self], by rw [e2, in_big q']; rfl, h⟩
  · subst q
    obtain ⟨N, k1, k2⟩ := c_keep hc.dc (j := j) (by omega)
    refine ⟨nI n - nI j, N, st Mr 31 2 (nI j), ?_, ?_, t, j, sd, r, rd, hc.to k2, hr.to (r_size hr.dr (by omega)), h1⟩
    · rw [e1, if_neg (nI_pos (by omega)), if_pos (nI_le (by omega) (by omega)), k1]; rfl
    · rw [e2, in_ok (nI_pos (by omega)) (nI_nlt (by omega) (by omega)), bd2_some, if_neg (by decide), u3]
theorem s_alter (h : JJ Mc Mr) (a b : Int32) : Step2 (rX6_alter a b) (rX7_alter a b) Mc Mr := by
  obtain ⟨t, n, sd, r, rd, hc, hr, h1⟩ := id h
  have t3 := hc.1.2.2.1
  have u3 := hr.1.2.2.1
  have hn := hc.1.1
  have c255 : ((255 : Int32)).toInt64 = (255 : Int64) := by decide
  have e1 : rX6_alter a b Mc = (if a < 0 then some (-2, Mc) else (if nI n ≤ a then some (-2, Mc) else (if b < 0 then some (-2, Mc) else (if b ≤ 255 then (bd2 (rX0_get 1 1200 1200 a Mc) fun r7 M6 => Option.bind (rX0_put 1 1200 1200 a b M6) fun M9 => some (r7, M9)) else some (-2, Mc))))) := by
    unfold rX6_alter; rw [t3]
  have e2 : rX7_alter a b Mr = (bd2 (rX7_in a.toInt64 0 (nI n - 1).toInt64 Mr) fun r3 M2 => if r3 = 0 then some (-2, M2) else (bd2 (rX7_in b.toInt64 0 ((255 : Int32)).toInt64 M2) fun r7 M6 => if r7 = 0 then some (-2, M6) else (if a < 0 ∨ 1200 ≤ a.toNatClampNeg then none else if a < 0 ∨ 1200 ≤ a.toNatClampNeg then none else some (M6.1 32 a.toNatClampNeg, st M6 32 a.toNatClampNeg b)))) := by
    unfold rX7_alter; rw [u3, c255]; rfl
  rcases pk_ix a (n := n) (by omega) with q | q | ⟨i, hi, q⟩
  · exact ⟨-2, Mc, Mr, by rw [e1, if_pos q], by rw [e2, in_neg q (by decide)]; rfl, h⟩
  · exact ⟨-2, Mc, Mr, by rw [e1, if_pos q, ite_self], by rw [e2, in_big ((pred_lt (by omega) a).mpr q)]; rfl, h⟩
  · have hnn : ¬ a < 0 := by rw [q]; exact nI_pos (by omega)
    have hg : ¬ nI n ≤ a := by rw [q]; exact nI_ge hi (by omega)
    have e3 : rX7_in a.toInt64 0 (nI n - 1).toInt64 Mr = some (1, Mr) := in_ok hnn (by rw [pred_lt (by omega)]; exact hg)
    rcases pk_ix b (n := 256) (by decide) with w | w | ⟨j, hj, w⟩
    · exact ⟨-2, Mc, Mr, by rw [e1, if_neg hnn, if_neg hg, if_pos w], by rw [e2, e3, bd2_some, if_neg (by decide), in_neg w (by decide)]; rfl, h⟩
    · have w' : (255 : Int32) < b := by
        rw [Int32.lt_iff_toInt_lt]
        rw [Int32.le_iff_toInt_le, nI_toInt (by omega)] at w
        have : (255 : Int32).toInt = 255 := by decide
        omega
      have w2 : ¬ b ≤ 255 := by
        rw [Int32.le_iff_toInt_le]
        rw [Int32.lt_iff_toInt_lt] at w'
        omega
      exact ⟨-2, Mc, Mr, by rw [e1, if_neg hnn, if_neg hg, if_neg w2, ite_self], by rw [e2, e3, bd2_some, if_neg (by decide), in_big w']; rfl, h⟩
    · subst q
      subst w
      obtain ⟨N, k1, k2⟩ := c_put hc.dc hi hj
      have m1 : ¬ (255 : Int32) < nI j := nI_nlt (a := 255) (b := j) (by omega) (by omega)
      refine ⟨nI (t i), N, st Mr 32 i (nI j), ?_, ?_, ap t i j, n, sd, r, rd, hc.to k2, hr.to (r_put hr.dr hi hj), h1⟩
      · rw [e1, if_neg hnn, if_neg hg, if_neg (nI_pos (by omega)), if_pos (show nI j ≤ (255 : Int32) from nI_le (a := j) (b := 255) (by omega) (by omega)), c_get hc.dc hi, bd2_some, k1]; rfl
      · rw [e2, e3, bd2_some, if_neg (by decide), in_ok (nI_pos (by omega)) m1, bd2_some, if_neg (by decide), if_neg (nocl (by omega) (by decide)), if_neg (nocl (by omega) (by decide)), nI_clamp (by omega), hr.1.2.2.2 i hi]
theorem s_mend (h : JJ Mc Mr) : Step2 rX6_mend rX7_mend Mc Mr := by
  obtain ⟨t, n, sd, r, rd, hc, hr, h1⟩ := id h
  have t3 := hc.1.2.2.1
  have u3 := hr.1.2.2.1
  have hn := hc.1.1
  by_cases hz : n = 0
  · subst hz
    refine ⟨-3, Mc, Mr, ?_, ?_, h⟩
    · unfold rX6_mend; rw [t3]; rfl
    · unfold rX7_mend; rw [u3]; rfl
  · have hp : nI n - 1 = nI (n - 1) := by rw [k_1, pk_sub (by omega)]
    have hs := Nat.mod_lt (sm t 0 (n - 1 - 0)) (show 0 < 256 by decide)
    have w1 := c_sum hc.dc (fr := 0) (q := n - 1) (by omega) (by omega)
    have w2 := d_sum hr.dr (fr := 0) (q := n - 1) (by omega) (by omega)
    generalize sm t 0 (n - 1 - 0) % 256 = s at hs w1 w2
    obtain ⟨N, k1, k2⟩ := c_put hc.dc (i := n - 1) (by omega) hs
    refine ⟨nI s, N, st Mr 32 (n - 1) (nI s), ?_, ?_, ap t (n - 1) s, n, sd, r, rd, hc.to k2, hr.to (r_put hr.dr (by omega) hs), h1⟩
    · unfold rX6_mend
      rw [t3, if_neg (nI_ne0 (by omega) (by omega)), lt_e, hp, show (0 : Int32) = nI 0 from rfl, w1, bd2_some, k1]; rfl
    · have u4 : (st Mr 32 (n - 1) (nI s)).1 31 2 = nI n := by rw [st_ne (by decide)]; exact u3
      unfold rX7_mend
      rw [u3, if_neg (nI_ne0 (by omega) (by omega)), hp, show (0 : Int32) = nI 0 from rfl, w2, bd2_some, show nI 0 = (0 : Int32) from rfl, if_neg (nocl (by omega) (by decide)), nI_clamp (by omega), lt_e, u4, hp, if_neg (nocl (by omega) (by decide)), nI_clamp (by omega), st_eq, upd_s]
end
