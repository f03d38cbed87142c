def nx (sd : Int64) : Int64 := sd * 6364136223846793005 + 1442695040888963407
def vl (sd : Int64) (k : Nat) : Nat := ((nx sd).toUInt64 >>> ((31 : Int32).toInt64.toUInt64 &&& Int64.toUInt64 63)).toNat % k
theorem u_l (u : UInt64) : u.toInt64 = lN u.toNat := by
  apply Int64.toBitVec_inj.mp
  unfold lN
  rw [UInt64.toBitVec_toInt64, Int64.toBitVec_ofNat']
  exact (BitVec.ofNat_toNat _ _).symm ▸ (by simp)
theorem ex_vl {sd : Int64} {k : Nat} (h0 : 0 < k) (hk : k ≤ 256) : (((nx sd).toUInt64 >>> ((31 : Int32).toInt64.toUInt64 &&& Int64.toUInt64 63)).toInt64 - ((nx sd).toUInt64 >>> ((31 : Int32).toInt64.toUInt64 &&& Int64.toUInt64 63)).toInt64 / (nI k).toInt64 * (nI k).toInt64).toInt32 = nI (vl sd k) := by
  have hb : ((nx sd).toUInt64 >>> ((31 : Int32).toInt64.toUInt64 &&& Int64.toUInt64 63)).toNat < 2 ^ 63 := by
    rw [UInt64.toNat_shiftRight, show ((31 : Int32).toInt64.toUInt64 &&& Int64.toUInt64 63).toNat % 64 = 31 by decide, Nat.shiftRight_eq_div_pow]
    have := (nx sd).toUInt64.toNat_lt
    omega
  rw [u_l, nI_l (by omega), pk_lRem hb h0 (by omega), lN_i]
  rfl
theorem vl_lt {sd : Int64} {k : Nat} (h0 : 0 < k) : vl sd k < k := Nat.mod_lt _ h0
theorem l_n0 {k : Nat} (h0 : 0 < k) (hk : k ≤ 256) : ¬ (nI k).toInt64 = 0 := by
  rw [nI_l (by omega), show (0 : Int64) = lN 0 from rfl, lN_eq (by omega) (by omega)]
  omega
section
variable {M0 M : Mm} {t : Nat → Nat} {n : Nat} {sd : Int64}
theorem c_next (h : DC M0 t n sd M) (k : Nat) {x : Int32} (hx : x = nI k) (h0 : 0 < k) (hk : k ≤ 256) : ∃ N, rX2_next x M = some (nI (vl sd k), N) ∧ DC M0 t n (nx sd) N := by
  subst hx
  have e1 : (stl M 4 1 (nx sd)).2 4 1 = nx sd := by unfold stl; simp only [if_true]; exact pk_uLs
  refine ⟨stl M 4 1 (nx sd), ?_, h.to (fun c _ _ _ => rfl) e1 h.1⟩
  have e2 : M.2 4 1 = sd := h.2.1
  unfold rX2_next
  rw [lt_e, e2, show sd * 6364136223846793005 + 1442695040888963407 = nx sd from rfl, e1, if_pos (show (1 : Int32) ≤ nI k from nI_le (a := 1) (b := k) h0 (by omega)), if_neg (l_n0 h0 hk), ex_vl h0 hk]
theorem r_draws (h : DR M0 t n sd M) (k : Nat) {x : Int32} (hx : x = nI k) (h0 : 0 < k) (hk : k ≤ 256) : ∃ N, rX7_draws x M = some (nI (vl sd k), N) ∧ DR M0 t n (nx sd) N := by
  subst hx
  have e1 : (stl M 31 0 (nx sd)).2 31 0 = nx sd := by unfold stl; simp only [if_true]; exact pk_uLs
  refine ⟨stl M 31 0 (nx sd), ?_, h.to (fun c _ _ _ _ => rfl) (fun j _ => rfl) e1 h.1⟩
  have e2 : M.2 31 0 = sd := h.2.1
  unfold rX7_draws
  rw [lt_e, e2, show sd * 6364136223846793005 + 1442695040888963407 = nx sd from rfl, e1, if_neg (l_n0 h0 hk), ex_vl h0 hk]
theorem c_app2 (h : DC M0 t n sd M) (a b : Nat) {x y : Int32} (hx : x = nI a) (hy : y = nI b) (ha : a < 256) (hb : b < 256) (hn : n + 2 ≤ 1200) : ∃ N, rX2_append x y M = some N ∧ DC M0 (ap (ap t n a) (n + 1) b) (n + 2) sd N := by
  subst hx; subst hy
  obtain ⟨N1, k1, d1⟩ := c_app h ha (by omega)
  obtain ⟨N2, k2, d2⟩ := c_app d1 hb (by omega)
  refine ⟨N2, ?_, d2⟩
  unfold rX2_append
  rw [k1, Option.bind_some, k2]; rfl
theorem r_lays (h : DR M0 t n sd M) (a b : Nat) {x y : Int32} (hx : x = nI a) (hy : y = nI b) (ha : a < 256) (hb : b < 256) (hn : n + 2 ≤ 1200) : ∃ N, rX7_lays x y M = some N ∧ DR M0 (ap (ap t n a) (n + 1) b) (n + 2) sd N := by
  subst hx; subst hy
  obtain ⟨N1, k1, d1⟩ := r_lay h ha (by omega)
  obtain ⟨N2, k2, d2⟩ := r_lay d1 hb (by omega)
  refine ⟨N2, ?_, d2⟩
  unfold rX7_lays
  rw [k1, Option.bind_some, k2]; rfl
theorem c_app3 (h : DC M0 t n sd M) (a b c : Nat) {x y z : Int32} (hx : x = nI a) (hy : y = nI b) (hz : z = nI c) (ha : a < 256) (hb : b < 256) (hc : c < 256) (hn : n + 3 ≤ 1200) : ∃ N, rX2_append_ x y z M = some N ∧ DC M0 (ap (ap (ap t n a) (n + 1) b) (n + 2) c) (n + 3) sd N := by
  subst hx; subst hy; subst hz
  obtain ⟨N1, k1, d1⟩ := c_app h ha (by omega)
  obtain ⟨N2, k2, d2⟩ := c_app d1 hb (by omega)
  obtain ⟨N3, k3, d3⟩ := c_app d2 hc (by omega)
  refine ⟨N3, ?_, d3⟩
  unfold rX2_append_
  rw [k1, Option.bind_some, k2, Option.bind_some, k3]; rfl
theorem c_a1 (h : DC M0 t n sd M) (b : Nat) {x : Int32} (hx : x = nI b) (hb : b < 256) (hn : n < 1200) : ∃ N, rX0_append 1 1200 1200 x M = some N ∧ DC M0 (ap t n b) (n + 1) sd N := by
  subst hx; exact c_app h hb hn
theorem r_l1 (h : DR M0 t n sd M) (b : Nat) {x : Int32} (hx : x = nI b) (hb : b < 256) (hn : n < 1200) : ∃ N, rX7_lay x M = some N ∧ DR M0 (ap t n b) (n + 1) sd N := by
  subst hx; exact r_lay h hb hn
/-- the tape behind an END and its check -/
def en (t : Nat → Nat) (n fr : Nat) : Nat → Nat := ap (ap t n 0) (n + 1) (sm (ap t n 0) fr (n + 1 - fr) % 256)
theorem c_end (h : DC M0 t n sd M) (fr : Nat) {x : Int32} (hx : x = nI fr) (hf : fr ≤ n) (hn : n + 2 ≤ 1200) : ∃ N, rX2_appendEnd x M = some N ∧ DC M0 (en t n fr) (n + 2) sd N := by
  subst hx
  obtain ⟨N1, k1, d1⟩ := c_a1 (x := 0) h 0 rfl (by decide) (by omega)
  obtain ⟨N2, k2, d2⟩ := c_app d1 (b := sm (ap t n 0) fr (n + 1 - fr) % 256) (Nat.mod_lt _ (by decide)) (by omega)
  refine ⟨N2, ?_, d2⟩
  unfold rX2_appendEnd
  rw [k1, Option.bind_some, d1.1.2.2.1, c_sum d1 (by omega) (by omega), bd2_some, k2]; rfl
theorem r_close (h : DR M0 t n sd M) (fr : Nat) {x : Int32} (hx : x = nI fr) (hf : fr ≤ n) (hn : n + 2 ≤ 1200) : ∃ N, rX7_close x M = some N ∧ DR M0 (en t n fr) (n + 2) sd N := by
  subst hx
  obtain ⟨N1, k1, d1⟩ := r_l1 (x := 0) h 0 rfl (by decide) (by omega)
  obtain ⟨N2, k2, d2⟩ := r_lay d1 (b := sm (ap t n 0) fr (n + 1 - fr) % 256) (Nat.mod_lt _ (by decide)) (by omega)
  refine ⟨N2, ?_, d2⟩
  unfold rX7_close
  rw [k1, Option.bind_some, d1.1.2.2.1, d_sum d1 (by omega) (by omega), bd2_some, k2]; rfl
end
/-- both sides go on from the same tape and seed -/
def E2 {α β : Type} (A B : Mm) (n0 n1 : Nat) (fc : Option α) (fr : Option β) (kc : Mm → Option α) (kr : Mm → Option β) : Prop := ∃ t n sd Mc Mr, n0 ≤ n ∧ n ≤ n1 ∧ DC A t n sd Mc ∧ DR B t n sd Mr ∧ fc = kc Mc ∧ fr = kr Mr
theorem g_loop {α β : Type} {A B : Mm} (Lc : Nat → Int32 → Mm → Option α) (Lr : Nat → Int32 → Mm → Option β) (kc : Mm → Option α) (kr : Mm → Option β) (w e : Nat) (hc0 : ∀ f M, Lc (f + 1) (nI e) M = kc M) (hr0 : ∀ f M, Lr (f + 1) (nI e) M = kr M)
    (hs : ∀ (i f g : Nat) (t : Nat → Nat) (n : Nat) (sd : Int64) (Mc Mr : Mm), i < e → DC A t n sd Mc → DR B t n sd Mr → n + w ≤ 1200 → E2 A B n (n + w) (Lc (f + 1) (nI i) Mc) (Lr (g + 1) (nI i) Mr) (Lc f (nI (i + 1))) (Lr g (nI (i + 1)))) :
    ∀ (k i f g : Nat) (t : Nat → Nat) (n : Nat) (sd : Int64) (Mc Mr : Mm), i + k = e → k < f → k < g → DC A t n sd Mc → DR B t n sd Mr → n + w * k ≤ 1200 → E2 A B n (n + w * k) (Lc f (nI i) Mc) (Lr g (nI i) Mr) kc kr := by
  intro k
  induction k with
  | zero =>
    intro i f g t n sd Mc Mr hi hf hg hc hr hn
    obtain ⟨f, rfl⟩ : ∃ f', f = f' + 1 := ⟨f - 1, by omega⟩
    obtain ⟨g, rfl⟩ : ∃ g', g = g' + 1 := ⟨g - 1, by omega⟩
    rw [Nat.add_zero] at hi
    subst hi
    exact ⟨t, n, sd, Mc, Mr, Nat.le_refl _, Nat.le_add_right _ _, hc, hr, hc0 _ _, hr0 _ _⟩
  | succ k ih =>
    intro i f g t n sd Mc Mr hi hf hg hc hr hn
    obtain ⟨f, rfl⟩ : ∃ f', f = f' + 1 := ⟨f - 1, by omega⟩
    obtain ⟨g, rfl⟩ : ∃ g', g = g' + 1 := ⟨g - 1, by omega⟩
    rw [Nat.mul_succ] at hn ⊢
    obtain ⟨t1, n1, s1, N1, N2, a1, a2, a3, a4, a5, a6⟩ := hs i f g t n sd Mc Mr (by omega) hc hr (by omega)
    obtain ⟨t2, n2, s2, N3, N4, b1, b2, b3, b4, b5, b6⟩ := ih (i + 1) f g t1 n1 s1 N1 N2 (by omega) (by omega) (by omega) a3 a4 (by omega)
    exact ⟨t2, n2, s2, N3, N4, by omega, by omega, b3, b4, a5.trans b5, a6.trans b6⟩
