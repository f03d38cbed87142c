/-- bytes that come one by one, each may look at those before -/
def apn (g : Nat → List Nat → Nat) : Nat → Nat → List Nat → List Nat
  | 0, _, o => o
  | k + 1, i, o => apn g k (i + 1) (o ++ [g i o])
theorem apn_len (g : Nat → List Nat → Nat) : ∀ (k i : Nat) (o : List Nat), (apn g k i o).length = o.length + k
  | 0, _, _ => rfl
  | k + 1, i, o => by rw [apn, apn_len g k]; simp; omega
theorem apn_congr (g g' : Nat → List Nat → Nat) : ∀ (k i : Nat) (o : List Nat), (∀ j o, i ≤ j → j < i + k → g j o = g' j o) → apn g k i o = apn g' k i o
  | 0, _, _, _ => rfl
  | k + 1, i, o, h => by
    rw [apn, apn, h i o (by omega) (by omega)]
    exact apn_congr g g' k (i + 1) _ (fun j o a b => h j o (by omega) (by omega))
abbrev Rs : Type := Nat × Int32 × Nat × List Nat × Nat
def rk (p : Nat) (out : List Nat) (co : Nat) : Rs := (0, -1, p, out, co)
def rf (c w : Nat) (out : List Nat) (co : Nat) : Rs := (c, nI w, 0, out, co)
def RS (M0 M : Mm) (r : Rs) : Prop := ∃ p', (r.1 = 0 → p' = r.2.2.1) ∧ CI M0 M r.2.2.2.1 p' r.2.2.2.2 r.1 r.2.1
def aStored (t : Nat → Nat) (mo sp e p : Nat) (out : List Nat) (co : Nat) : Rs :=
  if e ≤ p + 1 then rf 3 e out co else if e < p + 2 + t (p + 1) then rf 3 e out co else
  if aPay mo sp out.length co (t (p + 1)) (2 + t (p + 1) + t (p + 1)) = 0 then rk (p + 2 + t (p + 1)) (apn (fun i _ => t (p + 2 + i)) (t (p + 1)) 0 out) (co + (2 + t (p + 1) + t (p + 1)))
  else rf (aPay mo sp out.length co (t (p + 1)) (2 + t (p + 1) + t (p + 1))) p out co
def aNote (t : Nat → Nat) (mo sp e p : Nat) (out : List Nat) (co : Nat) : Rs :=
  if e ≤ p + 1 then rf 3 e out co else if e < p + 2 + t (p + 1) then rf 3 e out co else
  if aPay mo sp out.length co 0 (2 + t (p + 1)) = 0 then rk (p + 2 + t (p + 1)) out (co + (2 + t (p + 1)))
  else rf (aPay mo sp out.length co 0 (2 + t (p + 1))) p out co
def aRun (t : Nat → Nat) (mo sp e p : Nat) (out : List Nat) (co : Nat) : Rs :=
  if e ≤ p + 2 then rf 3 e out co else
  if aPay mo sp out.length co (t (p + 1)) (3 + t (p + 1)) = 0 then rk (p + 3) (apn (fun _ _ => t (p + 2)) (t (p + 1)) 0 out) (co + (3 + t (p + 1)))
  else rf (aPay mo sp out.length co (t (p + 1)) (3 + t (p + 1))) p out co
def aCopy (t : Nat → Nat) (mo sp e oa p : Nat) (out : List Nat) (co : Nat) : Rs :=
  if e ≤ p + 1 then rf 3 e out co else if t (p + 1) = 0 ∨ out.length - oa < t (p + 1) then rf 4 (p + 1) out co else if e ≤ p + 2 then rf 3 e out co else
  if aPay mo sp out.length co (t (p + 2)) (3 + t (p + 2)) = 0 then rk (p + 3) (apn (fun _ o => o.getD (o.length - t (p + 1)) 0) (t (p + 2)) 0 out) (co + (3 + t (p + 2)))
  else rf (aPay mo sp out.length co (t (p + 2)) (3 + t (p + 2))) p out co
def aAgain (t : Nat → Nat) (mo sp e oa : Nat) (ends : List Nat) (p : Nat) (out : List Nat) (co : Nat) : Rs :=
  if e ≤ p + 1 then rf 3 e out co else if ends.length ≤ t (p + 1) then rf 5 (p + 1) out co else
  if aPay mo sp out.length co (ends.getD (t (p + 1)) 0) (2 + ends.getD (t (p + 1)) 0) = 0 then rk (p + 2) (apn (fun i o => o.getD (oa + i) 0) (ends.getD (t (p + 1)) 0) 0 out) (co + (2 + ends.getD (t (p + 1)) 0))
  else rf (aPay mo sp out.length co (ends.getD (t (p + 1)) 0) (2 + ends.getD (t (p + 1)) 0)) p out co
theorem aPay_cap {mo sp on co many cost : Nat} (h : aPay mo sp on co many cost = 0) : on + many ≤ mo ∧ co + cost ≤ sp := by
  unfold aPay at h
  split at h
  · cases h
  · split at h
    · cases h
    · exact ⟨by omega, by omega⟩
theorem aPay_lt {mo sp on co many cost : Nat} : aPay mo sp on co many cost < 100 := by
  unfold aPay
  split
  · decide
  · split <;> decide
theorem getD_app {l : List Nat} {b i : Nat} : (l ++ [b]).getD i 0 = if i < l.length then l.getD i 0 else if i = l.length then b else 0 := by
  rw [List.getD_eq_getElem?_getD, List.getD_eq_getElem?_getD, List.getElem?_append]
  by_cases h : i < l.length
  · simp [h]
  · simp only [h, if_false]
    by_cases h2 : i = l.length
    · subst h2; simp
    · rw [if_neg h2, List.getElem?_eq_none (by simp; omega)]; rfl
theorem CI.app {M0 M : Mm} {out : List Nat} {p co fc : Nat} {fp : Int32} (h : CI M0 M out p co fc fp) (b : Nat) : CI M0 (st (st M 7 out.length (nI b)) 6 1 (nI (out.length + 1))) (out ++ [b]) p co fc fp := by
  obtain ⟨h1, h2, h3, h4, h5, h6, h7, h8, h9⟩ := h
  refine ⟨fun c a b d e => ?_, fun j a b d e f g => ?_, h3, ?_, ?_, ?_, ?_, ?_, ?_⟩
  · rw [st_ne b, st_ne d]; exact h1 c a b d e
  · rw [st_ne (by decide), st_ne (by decide)]; exact h2 j a b d e f g
  · rw [st_ne (by decide), st_ne (by decide)]; exact h4
  · rw [st_ne (by decide), st_ne (by decide)]; exact h5
  · rw [st_ne (by decide), st_ne (by decide)]; exact h6
  · rw [st_ne (by decide), st_ne (by decide)]; exact h7
  · rw [st_eq, upd_s]; simp
  · intro i hi
    rw [st_ne (by decide), st_eq, getD_app]
    simp only [List.length_append, List.length_cons, List.length_nil] at hi
    by_cases h2 : i < out.length
    · rw [if_pos h2, upd_n (by omega)]; exact h9 i h2
    · rw [if_neg h2, if_pos (by omega), show i = out.length by omega, upd_s]
section
variable {t : Nat → Nat} {n mo sp dp : Nat} {M0 M : Mm} {out : List Nat} {p co fc e : Nat} {fp : Int32}
theorem ev_app (h : CI M0 M out p co fc fp) (b : Nat) (ho : out.length < 4000) : ∃ M', rX0_append 6 4000 0 (nI b) M = some M' ∧ CI M0 M' (out ++ [b]) p co fc fp := by
  refine ⟨_, ?_, h.app b⟩
  have h8 := h.2.2.2.2.2.2.2.1
  unfold rX0_append
  have c1 : ¬ 4000 ≤ out.length := by omega
  have c2 : (st M 7 out.length (nI b)).1 6 1 = nI out.length := by rw [st_ne (by decide)]; exact h8
  simp (disch := omega) only [lt_e, bd2_some, Option.bind_some, k_0, k_1, k_2, k_3, k_4, k_5, k_6, k_7, k_8, k_9, k_10, k_11, k_12, k_13, k_15, k_20, k_60, k_75, k_80, k_127, k_128, k_255, k_256, k_600, k_1200, k_4000, k_20000, nI_leI, nI_ltI, nI_eq, nI_m1, Nat.not_lt_zero, Nat.zero_le, nI_add, pk_sub, nI_mul, nI_clamp, z_0, z_1, if_true, if_false, not_true_eq_false, not_false_eq_true, or_false, false_or, or_self, true_or, or_true, h8, c1, c2]
theorem ev_oget (h : CI M0 M out p co fc fp) {i : Nat} (hi : i < out.length) (ho : out.length ≤ 4000) : rX0_get 6 4000 0 (nI i) M = some (nI (out.getD i 0), M) := by
  have h8 := h.2.2.2.2.2.2.2.1
  have h9 := h.2.2.2.2.2.2.2.2 i hi
  unfold rX0_get
  have c1 : ¬ out.length ≤ i := by omega
  have c2 : ¬ 4000 ≤ i := by omega
  simp (disch := omega) only [lt_e, bd2_some, Option.bind_some, k_0, k_1, k_2, k_3, k_4, k_5, k_6, k_7, k_8, k_9, k_10, k_11, k_12, k_13, k_15, k_20, k_60, k_75, k_80, k_127, k_128, k_255, k_256, k_600, k_1200, k_4000, k_20000, nI_leI, nI_ltI, nI_eq, nI_m1, Nat.not_lt_zero, Nat.zero_le, nI_add, pk_sub, nI_mul, nI_clamp, z_0, z_1, if_true, if_false, not_true_eq_false, not_false_eq_true, or_false, false_or, or_self, true_or, or_true, h8, h9, c1, c2]
theorem CI.tape (B : Bc t n mo sp dp M0) (h : CI M0 M out p co fc fp) : M.1 1 1 = nI n ∧ ∀ i, i < n → M.1 2 i = nI (t i) := by
  obtain ⟨b1, b2, b3, b4, b5, b6, b7, b8, b9, b10⟩ := B
  exact ⟨by rw [h.1 1 (by decide) (by decide) (by decide) (by decide)]; exact b6, fun i hi => by rw [h.1 2 (by decide) (by decide) (by decide) (by decide)]; exact b7 i hi⟩
theorem ev_tget (B : Bc t n mo sp dp M0) (h : CI M0 M out p co fc fp) {i : Nat} (hi : i < n) : rX0_get 1 1200 1200 (nI i) M = some (nI (t i), M) := by
  obtain ⟨t1, t2⟩ := h.tape B
  have t3 := t2 i hi
  have b1 := B.1
  unfold rX0_get
  have c1 : ¬ n ≤ i := by omega
  have c2 : ¬ 1200 ≤ i := by omega
  simp (disch := omega) only [lt_e, bd2_some, Option.bind_some, k_0, k_1, k_2, k_3, k_4, k_5, k_6, k_7, k_8, k_9, k_10, k_11, k_12, k_13, k_15, k_20, k_60, k_75, k_80, k_127, k_128, k_255, k_256, k_600, k_1200, k_4000, k_20000, nI_leI, nI_ltI, nI_eq, nI_m1, Nat.not_lt_zero, Nat.zero_le, nI_add, pk_sub, nI_mul, nI_clamp, z_0, z_1, if_true, if_false, not_true_eq_false, not_false_eq_true, or_false, false_or, or_self, true_or, or_true, t1, t3, c1, c2]
theorem lp_stored (B : Bc t n mo sp dp M0) : ∀ (k fuel i : Nat) (M : Mm) (out : List Nat), k < fuel → CI M0 M out p co fc fp → out.length + k ≤ 4000 → p + (i + k) ≤ n → ∃ M', rX4_readStored_b38 fuel (nI (i + k)) (nI i) M = some M' ∧ CI M0 M' (apn (fun j _ => t (p + j)) k i out) (p + (i + k)) co fc fp := by
  have b1 := B.1
  intro k
  induction k with
  | zero =>
    intro fuel i M out hf h ho hn
    obtain ⟨f, rfl⟩ : ∃ f, fuel = f + 1 := ⟨fuel - 1, by omega⟩
    refine ⟨_, ?_, h.spot (p + (i + 0))⟩
    show rX4_readStored_b38_s (rX4_readStored_b38 f) (nI (i + 0)) (nI i) M = _
    unfold rX4_readStored_b38_s
    have h4 := h.2.2.2.1
    simp (disch := omega) only [lt_e, bd2_some, Option.bind_some, k_0, k_1, k_2, k_3, k_4, k_5, k_6, k_7, k_8, k_9, k_10, k_11, k_12, k_13, k_15, k_20, k_60, k_75, k_80, k_127, k_128, k_255, k_256, k_600, k_1200, k_4000, k_20000, nI_leI, nI_ltI, nI_eq, nI_m1, Nat.not_lt_zero, Nat.zero_le, nI_add, pk_sub, nI_mul, nI_clamp, z_0, z_1, if_true, if_false, not_true_eq_false, not_false_eq_true, or_false, false_or, or_self, true_or, or_true, h4, Nat.add_zero, Nat.le_refl]
  | succ k ih =>
    intro fuel i M out hf h ho hn
    obtain ⟨f, rfl⟩ : ∃ f, fuel = f + 1 := ⟨fuel - 1, by omega⟩
    obtain ⟨M1, e1, h1⟩ := ev_app h (t (p + i)) (by omega)
    obtain ⟨M2, e2, h2⟩ := ih f (i + 1) M1 (out ++ [t (p + i)]) (by omega) h1 (by simp; omega) (by omega)
    refine ⟨M2, ?_, by rw [show p + (i + (k + 1)) = p + (i + 1 + k) by omega]; exact h2⟩
    show rX4_readStored_b38_s (rX4_readStored_b38 f) (nI (i + (k + 1))) (nI i) M = _
    unfold rX4_readStored_b38_s
    have h4 := h.2.2.2.1
    have e0 := ev_tget B h (i := p + i) (by omega)
    have c1 : ¬ i + (k + 1) ≤ i := by omega
    rw [show i + 1 + k = i + (k + 1) by omega] at e2
    simp (disch := omega) only [lt_e, bd2_some, Option.bind_some, k_0, k_1, k_2, k_3, k_4, k_5, k_6, k_7, k_8, k_9, k_10, k_11, k_12, k_13, k_15, k_20, k_60, k_75, k_80, k_127, k_128, k_255, k_256, k_600, k_1200, k_4000, k_20000, nI_leI, nI_ltI, nI_eq, nI_m1, Nat.not_lt_zero, Nat.zero_le, nI_add, pk_sub, nI_mul, nI_clamp, z_0, z_1, if_true, if_false, not_true_eq_false, not_false_eq_true, or_false, false_or, or_self, true_or, or_true, h4, c1, e0, e1, e2]
theorem lp_run (b : Nat) : ∀ (k fuel i : Nat) (M : Mm) (out : List Nat), k < fuel → CI M0 M out p co fc fp → out.length + k ≤ 4000 → i + k < 100000 → ∃ M', rX4_readRun_b40 fuel (nI (i + k)) (nI b) (nI i) M = some M' ∧ CI M0 M' (apn (fun _ _ => b) k i out) p co fc fp := by
  intro k
  induction k with
  | zero =>
    intro fuel i M out hf h ho hn
    obtain ⟨f, rfl⟩ : ∃ f, fuel = f + 1 := ⟨fuel - 1, by omega⟩
    refine ⟨M, ?_, h⟩
    show rX4_readRun_b40_s (rX4_readRun_b40 f) (nI (i + 0)) (nI b) (nI i) M = _
    unfold rX4_readRun_b40_s
    simp (disch := omega) only [lt_e, bd2_some, Option.bind_some, k_0, k_1, k_2, k_3, k_4, k_5, k_6, k_7, k_8, k_9, k_10, k_11, k_12, k_13, k_15, k_20, k_60, k_75, k_80, k_127, k_128, k_255, k_256, k_600, k_1200, k_4000, k_20000, nI_leI, nI_ltI, nI_eq, nI_m1, Nat.not_lt_zero, Nat.zero_le, nI_add, pk_sub, nI_mul, nI_clamp, z_0, z_1, if_true, if_false, not_true_eq_false, not_false_eq_true, or_false, false_or, or_self, true_or, or_true, Nat.add_zero, Nat.le_refl]
  | succ k ih =>
    intro fuel i M out hf h ho hn
    obtain ⟨f, rfl⟩ : ∃ f, fuel = f + 1 := ⟨fuel - 1, by omega⟩
    obtain ⟨M1, e1, h1⟩ := ev_app h b (by omega)
    obtain ⟨M2, e2, h2⟩ := ih f (i + 1) M1 (out ++ [b]) (by omega) h1 (by simp; omega) (by omega)
    refine ⟨M2, ?_, h2⟩
    show rX4_readRun_b40_s (rX4_readRun_b40 f) (nI (i + (k + 1))) (nI b) (nI i) M = _
    unfold rX4_readRun_b40_s
    have c1 : ¬ i + (k + 1) ≤ i := by omega
    rw [show i + 1 + k = i + (k + 1) by omega] at e2
    simp (disch := omega) only [lt_e, bd2_some, Option.bind_some, k_0, k_1, k_2, k_3, k_4, k_5, k_6, k_7, k_8, k_9, k_10, k_11, k_12, k_13, k_15, k_20, k_60, k_75, k_80, k_127, k_128, k_255, k_256, k_600, k_1200, k_4000, k_20000, nI_leI, nI_ltI, nI_eq, nI_m1, Nat.not_lt_zero, Nat.zero_le, nI_add, pk_sub, nI_mul, nI_clamp, z_0, z_1, if_true, if_false, not_true_eq_false, not_false_eq_true, or_false, false_or, or_self, true_or, or_true, c1, e1, e2]
theorem lp_copy (pk d : Nat) (hd : 0 < d) : ∀ (k fuel i : Nat) (M : Mm) (out : List Nat), k < fuel → CI M0 M out p co fc fp → d ≤ out.length → out.length + k ≤ 4000 → i + k < 100000 → ∃ M', rX4_readCopy_b81 pk fuel (nI d) (nI (i + k)) (nI i) M = some M' ∧ CI M0 M' (apn (fun _ o => o.getD (o.length - d) 0) k i out) p co fc fp := by
  intro k
  induction k with
  | zero =>
    intro fuel i M out hf h hdo ho hn
    obtain ⟨f, rfl⟩ : ∃ f, fuel = f + 1 := ⟨fuel - 1, by omega⟩
    refine ⟨M, ?_, h⟩
    show rX4_readCopy_b81_s pk (rX4_readCopy_b81 pk f) (nI d) (nI (i + 0)) (nI i) M = _
    unfold rX4_readCopy_b81_s
    simp (disch := omega) only [lt_e, bd2_some, Option.bind_some, k_0, k_1, k_2, k_3, k_4, k_5, k_6, k_7, k_8, k_9, k_10, k_11, k_12, k_13, k_15, k_20, k_60, k_75, k_80, k_127, k_128, k_255, k_256, k_600, k_1200, k_4000, k_20000, nI_leI, nI_ltI, nI_eq, nI_m1, Nat.not_lt_zero, Nat.zero_le, nI_add, pk_sub, nI_mul, nI_clamp, z_0, z_1, if_true, if_false, not_true_eq_false, not_false_eq_true, or_false, false_or, or_self, true_or, or_true, Nat.add_zero, Nat.le_refl]
  | succ k ih =>
    intro fuel i M out hf h hdo ho hn
    obtain ⟨f, rfl⟩ : ∃ f, fuel = f + 1 := ⟨fuel - 1, by omega⟩
    obtain ⟨M1, e1, h1⟩ := ev_app h (out.getD (out.length - d) 0) (by omega)
    obtain ⟨M2, e2, h2⟩ := ih f (i + 1) M1 _ (by omega) h1 (by simp; omega) (by simp; omega) (by omega)
    refine ⟨M2, ?_, h2⟩
    show rX4_readCopy_b81_s pk (rX4_readCopy_b81 pk f) (nI d) (nI (i + (k + 1))) (nI i) M = _
    unfold rX4_readCopy_b81_s
    have c1 : ¬ i + (k + 1) ≤ i := by omega
    have h8 := h.2.2.2.2.2.2.2.1
    have e0 := ev_oget h (i := out.length - d) (by omega) (by omega)
    rw [show i + 1 + k = i + (k + 1) by omega] at e2
    simp (disch := omega) only [lt_e, bd2_some, Option.bind_some, k_0, k_1, k_2, k_3, k_4, k_5, k_6, k_7, k_8, k_9, k_10, k_11, k_12, k_13, k_15, k_20, k_60, k_75, k_80, k_127, k_128, k_255, k_256, k_600, k_1200, k_4000, k_20000, nI_leI, nI_ltI, nI_eq, nI_m1, Nat.not_lt_zero, Nat.zero_le, nI_add, pk_sub, nI_mul, nI_clamp, z_0, z_1, if_true, if_false, not_true_eq_false, not_false_eq_true, or_false, false_or, or_self, true_or, or_true, c1, h8, e0, e1, e2]
theorem lp_again (pk oa : Nat) (hpk : 18 < pk) (hoa : M0.1 pk 2 = nI oa) : ∀ (k fuel i : Nat) (M : Mm) (out : List Nat), k < fuel → CI M0 M out p co fc fp → oa + (i + k) ≤ out.length → out.length + k ≤ 4000 → ∃ M', rX4_readAgain_b90 pk fuel (nI (i + k)) (nI i) M = some M' ∧ CI M0 M' (apn (fun j o => o.getD (oa + j) 0) k i out) p co fc fp := by
  intro k
  induction k with
  | zero =>
    intro fuel i M out hf h hdo ho
    obtain ⟨f, rfl⟩ : ∃ f, fuel = f + 1 := ⟨fuel - 1, by omega⟩
    refine ⟨M, ?_, h⟩
    show rX4_readAgain_b90_s pk (rX4_readAgain_b90 pk f) (nI (i + 0)) (nI i) M = _
    unfold rX4_readAgain_b90_s
    simp (disch := omega) only [lt_e, bd2_some, Option.bind_some, k_0, k_1, k_2, k_3, k_4, k_5, k_6, k_7, k_8, k_9, k_10, k_11, k_12, k_13, k_15, k_20, k_60, k_75, k_80, k_127, k_128, k_255, k_256, k_600, k_1200, k_4000, k_20000, nI_leI, nI_ltI, nI_eq, nI_m1, Nat.not_lt_zero, Nat.zero_le, nI_add, pk_sub, nI_mul, nI_clamp, z_0, z_1, if_true, if_false, not_true_eq_false, not_false_eq_true, or_false, false_or, or_self, true_or, or_true, Nat.add_zero, Nat.le_refl]
  | succ k ih =>
    intro fuel i M out hf h hdo ho
    obtain ⟨f, rfl⟩ : ∃ f, fuel = f + 1 := ⟨fuel - 1, by omega⟩
    obtain ⟨M1, e1, h1⟩ := ev_app h (out.getD (oa + i) 0) (by omega)
    obtain ⟨M2, e2, h2⟩ := ih f (i + 1) M1 _ (by omega) h1 (by simp; omega) (by simp; omega)
    refine ⟨M2, ?_, h2⟩
    show rX4_readAgain_b90_s pk (rX4_readAgain_b90 pk f) (nI (i + (k + 1))) (nI i) M = _
    unfold rX4_readAgain_b90_s
    have c1 : ¬ i + (k + 1) ≤ i := by omega
    have h8 : M.1 pk 2 = nI oa := by rw [h.1 pk (by omega) (by omega) (by omega) (by omega)]; exact hoa
    have e0 := ev_oget h (i := oa + i) (by omega) (by omega)
    rw [show i + 1 + k = i + (k + 1) by omega] at e2
    simp (disch := omega) only [lt_e, bd2_some, Option.bind_some, k_0, k_1, k_2, k_3, k_4, k_5, k_6, k_7, k_8, k_9, k_10, k_11, k_12, k_13, k_15, k_20, k_60, k_75, k_80, k_127, k_128, k_255, k_256, k_600, k_1200, k_4000, k_20000, nI_leI, nI_ltI, nI_eq, nI_m1, Nat.not_lt_zero, Nat.zero_le, nI_add, pk_sub, nI_mul, nI_clamp, z_0, z_1, if_true, if_false, not_true_eq_false, not_false_eq_true, or_false, false_or, or_self, true_or, or_true, c1, h8, e0, e1, e2]
theorem RS.ok {M : Mm} {p co : Nat} {out : List Nat} (h : CI M0 M out p co 0 (-1)) : RS M0 M (rk p out co) := ⟨p, fun _ => rfl, h⟩
theorem RS.no {M : Mm} {p co c w : Nat} {out : List Nat} (h : CI M0 M out p co c (nI w)) (hc : c ≠ 0) : RS M0 M (rf c w out co) := ⟨p, fun h => absurd h hc, h⟩
theorem e_stored (B : Bc t n mo sp dp M0) (h : CI M0 M out (p + 1) co 0 (-1)) (hpe : p < e) (he : e ≤ n) (ho : out.length ≤ mo) (hc : co ≤ sp) : ∃ M', rX4_readStored (nI p) (nI e) M = some M' ∧ RS M0 M' (aStored t mo sp e p out co) := by
  obtain ⟨b1, b2, b3, b4, b5, -⟩ := id B
  unfold rX4_readStored aStored
  by_cases c1 : e ≤ p + 1
  · obtain ⟨M1, e1, h1⟩ := ev_next0 h c1 (by omega) (by omega) (by decide)
    refine ⟨M1, by rw [e1]; rfl, ?_⟩
    rw [if_pos c1]
    exact RS.no h1 (by decide)
  · obtain ⟨M1, e1, h1⟩ := ev_next1 B h (by omega) he
    have tb := b2 (p + 1) (by omega)
    have nm : ¬ nI (t (p + 1)) = -1 := by rw [show (-1 : Int32) = -nI 1 from rfl, nI_m1 (by omega)]; exact not_false
    rw [e1, bd2_some, if_neg nm, if_neg c1]
    by_cases c2 : e < p + 2 + t (p + 1)
    · obtain ⟨M2, e2, h2⟩ := ev_has0 h1 (e := e) (t (p + 1)) (by omega) (by omega) (by omega) (by omega) (by decide)
      refine ⟨M2, by rw [e2]; rfl, ?_⟩
      rw [if_pos c2]
      exact RS.no h2 (by decide)
    · have e2 := ev_has1 h1 (e := e) (t (p + 1)) (by omega) (by omega)
      rw [e2, bd2_some, if_neg (by decide), if_neg c2]
      obtain ⟨M3, e3, h3⟩ := ev_pay B h1 p (t (p + 1)) (2 + t (p + 1) + t (p + 1)) (by omega) (by omega) (by omega) (by omega)
      rw [k_2, nI_add, nI_add, e3, bd2_some]
      by_cases c3 : aPay mo sp out.length co (t (p + 1)) (2 + t (p + 1) + t (p + 1)) = 0
      · simp only [c3, if_true] at h3 ⊢
        obtain ⟨g1, g2⟩ := aPay_cap c3
        obtain ⟨M4, e4, h4⟩ := lp_stored B (t (p + 1)) FU 0 M3 out (by unfold FU; omega) h3 (by omega) (by omega)
        rw [Nat.zero_add] at e4 h4
        refine ⟨M4, by rw [if_neg (by decide)]; exact e4, ?_⟩
        exact RS.ok h4
      · simp only [c3, if_false] at h3 ⊢
        exact ⟨M3, rfl, RS.no h3 c3⟩
end
