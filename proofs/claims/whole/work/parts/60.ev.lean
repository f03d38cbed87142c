theorem k_0 : (0 : Int32) = nI 0 := rfl
theorem k_1 : (1 : Int32) = nI 1 := rfl
theorem k_2 : (2 : Int32) = nI 2 := rfl
theorem k_3 : (3 : Int32) = nI 3 := rfl
theorem k_4 : (4 : Int32) = nI 4 := rfl
theorem k_5 : (5 : Int32) = nI 5 := rfl
theorem k_6 : (6 : Int32) = nI 6 := rfl
theorem k_7 : (7 : Int32) = nI 7 := rfl
theorem k_8 : (8 : Int32) = nI 8 := rfl
theorem k_9 : (9 : Int32) = nI 9 := rfl
theorem k_10 : (10 : Int32) = nI 10 := rfl
theorem k_11 : (11 : Int32) = nI 11 := rfl
theorem k_12 : (12 : Int32) = nI 12 := rfl
theorem k_13 : (13 : Int32) = nI 13 := rfl
theorem k_15 : (15 : Int32) = nI 15 := rfl
theorem k_20 : (20 : Int32) = nI 20 := rfl
theorem k_60 : (60 : Int32) = nI 60 := rfl
theorem k_75 : (75 : Int32) = nI 75 := rfl
theorem k_80 : (80 : Int32) = nI 80 := rfl
theorem k_127 : (127 : Int32) = nI 127 := rfl
theorem k_128 : (128 : Int32) = nI 128 := rfl
theorem k_255 : (255 : Int32) = nI 255 := rfl
theorem k_256 : (256 : Int32) = nI 256 := rfl
theorem k_600 : (600 : Int32) = nI 600 := rfl
theorem k_1200 : (1200 : Int32) = nI 1200 := rfl
theorem k_4000 : (4000 : Int32) = nI 4000 := rfl
theorem k_20000 : (20000 : Int32) = nI 20000 := rfl
theorem lt_e {α β : Sort _} (e : α) (k : α → β) : lt_ e k = k e := rfl
theorem bd2_some {β : Type} (r : Int32) (M : Mm) (k : Int32 → Mm → Option β) : bd2 (some (r, M)) k = k r M := rfl
theorem nI_m1 {a : Nat} (h : a < 2 ^ 31) : (nI a = -nI 1) = False := by
  apply eq_false
  intro e
  have := congrArg Int32.toInt e
  rw [nI_toInt h] at this
  have h2 : (-nI 1).toInt = -1 := by decide
  omega
theorem nI_mul (a b : Nat) : nI a * nI b = nI (a * b) := pk_mul a b
theorem z_0 : (nI 0 &&& nI 1 = nI 0) = True := by decide
theorem z_1 : (nI 1 &&& nI 1 = nI 1) = True := by decide
theorem st_eq {M : Mm} {c j : Nat} {v : Int32} : (st M c j v).1 c = upd (M.1 c) j v := sa_at
theorem st_ne {M : Mm} {c j x : Nat} {v : Int32} (h : x ≠ c) : (st M c j v).1 x = M.1 x := sa_ne h
theorem st_2 {M : Mm} {c j : Nat} {v : Int32} : (st M c j v).2 = M.2 := rfl
theorem upd_s {f : Nat → Int32} {k : Nat} {x : Int32} : upd f k x k = x := by simp [upd]
theorem upd_n {f : Nat → Int32} {k j : Nat} {x : Int32} (h : j ≠ k) : upd f k x j = f j := by simp [upd, h]
/-- what a READ goes by: the tape of n bytes t, its bounds -/
def Bc (t : Nat → Nat) (n mo sp dp : Nat) (M : Mm) : Prop := n ≤ 1200 ∧ (∀ i, i < n → t i < 256) ∧ mo ≤ 4000 ∧ sp ≤ 20000 ∧ dp ≤ 8 ∧ M.1 1 1 = nI n ∧ (∀ i, i < n → M.1 2 i = nI (t i)) ∧ M.1 5 6 = nI mo ∧ M.1 5 7 = nI sp ∧ M.1 5 8 = nI dp
/-- the class's reader: OUT, the spot, the cost, the fault; all else as in M0 -/
def CI (M0 M : Mm) (out : List Nat) (p co fc : Nat) (fp : Int32) : Prop :=
  (∀ c, c ≠ 5 → c ≠ 6 → c ≠ 7 → (c < 15 ∨ 18 < c) → M.1 c = M0.1 c) ∧ (∀ j, j ≠ 9 → j ≠ 10 → j ≠ 11 → j ≠ 12 → j ≠ 15 → j ≠ 16 → M.1 5 j = M0.1 5 j) ∧ M.2 = M0.2 ∧
  M.1 5 9 = nI p ∧ M.1 5 12 = nI co ∧ M.1 5 15 = nI fc ∧ M.1 5 16 = fp ∧ M.1 6 1 = nI out.length ∧ (∀ i, i < out.length → M.1 7 i = nI (out.getD i 0))
theorem CI.spot {M0 M : Mm} {out : List Nat} {p co fc : Nat} {fp : Int32} (h : CI M0 M out p co fc fp) (p' : Nat) : CI M0 (st M 5 9 (nI p')) out p' co fc fp := by
  obtain ⟨h1, h2, h3, h4, h5, h6, h7, h8, h9⟩ := h
  refine ⟨fun c a b d e => ?_, fun j a b d e f g => ?_, h3, ?_, ?_, ?_, ?_, ?_, ?_⟩
  · rw [st_ne a]; exact h1 c a b d e
  · rw [st_eq, upd_n a]; exact h2 j a b d e f g
  · rw [st_eq, upd_s]
  · rw [st_eq, upd_n (by decide)]; exact h5
  · rw [st_eq, upd_n (by decide)]; exact h6
  · rw [st_eq, upd_n (by decide)]; exact h7
  · rw [st_ne (by decide)]; exact h8
  · rw [st_ne (by decide)]; exact h9
theorem CI.cost {M0 M : Mm} {out : List Nat} {p co fc : Nat} {fp : Int32} (h : CI M0 M out p co fc fp) (c' : Nat) : CI M0 (st M 5 12 (nI c')) out p c' fc fp := by
  obtain ⟨h1, h2, h3, h4, h5, h6, h7, h8, h9⟩ := h
  refine ⟨fun c a b d e => ?_, fun j a b d e f g => ?_, h3, ?_, ?_, ?_, ?_, ?_, ?_⟩
  · rw [st_ne a]; exact h1 c a b d e
  · rw [st_eq, upd_n e]; exact h2 j a b d e f g
  · rw [st_eq, upd_n (by decide)]; exact h4
  · rw [st_eq, upd_s]
  · rw [st_eq, upd_n (by decide)]; exact h6
  · rw [st_eq, upd_n (by decide)]; exact h7
  · rw [st_ne (by decide)]; exact h8
  · rw [st_ne (by decide)]; exact h9
theorem CI.bit {M0 M : Mm} {out : List Nat} {p co fc : Nat} {fp : Int32} (h : CI M0 M out p co fc fp) (k : Nat) (hk : k = 10 ∨ k = 11) (v : Int32) : CI M0 (st M 5 k v) out p co fc fp := by
  obtain ⟨h1, h2, h3, h4, h5, h6, h7, h8, h9⟩ := h
  refine ⟨fun c a b d e => ?_, fun j a b d e f g => ?_, h3, ?_, ?_, ?_, ?_, ?_, ?_⟩
  · rw [st_ne a]; exact h1 c a b d e
  · rw [st_eq, upd_n (by omega)]; exact h2 j a b d e f g
  · rw [st_eq, upd_n (by omega)]; exact h4
  · rw [st_eq, upd_n (by omega)]; exact h5
  · rw [st_eq, upd_n (by omega)]; exact h6
  · rw [st_eq, upd_n (by omega)]; exact h7
  · rw [st_ne (by decide)]; exact h8
  · rw [st_ne (by decide)]; exact h9
/-- a write to the table's cells -/
theorem CI.tab {M0 M M1 : Mm} {out : List Nat} {p co fc : Nat} {fp : Int32} (h : CI M0 M out p co fc fp) (hd : ∀ d, d < 15 ∨ 18 < d → M1.1 d = M.1 d) (h2 : M1.2 = M.2) : CI M0 M1 out p co fc fp := by
  obtain ⟨h1, g2, h3, h4, h5, h6, h7, h8, h9⟩ := h
  refine ⟨fun c a b d e => ?_, fun j a b d e f g => ?_, h2.trans h3, ?_, ?_, ?_, ?_, ?_, ?_⟩
  · rw [hd c e]; exact h1 c a b d e
  · rw [hd 5 (by decide)]; exact g2 j a b d e f g
  · rw [hd 5 (by decide)]; exact h4
  · rw [hd 5 (by decide)]; exact h5
  · rw [hd 5 (by decide)]; exact h6
  · rw [hd 5 (by decide)]; exact h7
  · rw [hd 6 (by decide)]; exact h8
  · rw [hd 7 (by decide)]; exact h9
/-- fail: the first fault stays -/
theorem ev_fail {M0 M : Mm} {out : List Nat} {p co fc c : Nat} {fp w : Int32} (h : CI M0 M out p co fc fp) (hf : fc < 100) (hc : c < 100) : ∃ M', rX4_fail (nI c) w M = some M' ∧ CI M0 M' out p co (if fc = 0 then c else fc) (if fc = 0 then w else fp) := by
  have h0 := h
  obtain ⟨h1, h2, h3, h4, h5, h6, h7, h8, h9⟩ := h
  unfold rX4_fail
  by_cases hz : fc = 0
  · subst hz
    refine ⟨st (st M 5 15 (nI c)) 5 16 w, by simp (disch := omega) only [lt_e, bd2_some, Option.bind_some, k_0, k_1, k_2, k_3, k_4, k_5, k_6, k_7, k_8, k_9, k_10, k_11, k_12, k_13, k_15, k_20, k_60, k_75, k_80, k_127, k_128, k_255, k_256, k_600, k_1200, k_4000, k_20000, nI_leI, nI_ltI, nI_eq, nI_m1, Nat.not_lt_zero, Nat.zero_le, nI_add, pk_sub, nI_mul, nI_clamp, z_0, z_1, if_true, if_false, not_true_eq_false, not_false_eq_true, or_false, false_or, or_self, true_or, or_true, h6], ?_⟩
    simp only [if_true]
    refine ⟨fun c a b d e => ?_, fun j a b d e f g => ?_, h3, ?_, ?_, ?_, ?_, ?_, ?_⟩
    · rw [st_ne a, st_ne a]; exact h1 c a b d e
    · rw [st_eq, upd_n g, st_eq, upd_n f]; exact h2 j a b d e f g
    · rw [st_eq, upd_n (by decide), st_eq, upd_n (by decide)]; exact h4
    · rw [st_eq, upd_n (by decide), st_eq, upd_n (by decide)]; exact h5
    · rw [st_eq, upd_n (by decide), st_eq, upd_s]
    · rw [st_eq, upd_s]
    · rw [st_ne (by decide), st_ne (by decide)]; exact h8
    · rw [st_ne (by decide), st_ne (by decide)]; exact h9
  · refine ⟨M, by simp (disch := omega) only [lt_e, bd2_some, Option.bind_some, k_0, k_1, k_2, k_3, k_4, k_5, k_6, k_7, k_8, k_9, k_10, k_11, k_12, k_13, k_15, k_20, k_60, k_75, k_80, k_127, k_128, k_255, k_256, k_600, k_1200, k_4000, k_20000, nI_leI, nI_ltI, nI_eq, nI_m1, Nat.not_lt_zero, Nat.zero_le, nI_add, pk_sub, nI_mul, nI_clamp, z_0, z_1, if_true, if_false, not_true_eq_false, not_false_eq_true, or_false, false_or, or_self, true_or, or_true, h6, hz], ?_⟩
    simp only [hz, if_false]
    exact h0
section
variable {t : Nat → Nat} {n mo sp dp : Nat} {M0 M : Mm} {out : List Nat} {p co fc e : Nat} {fp : Int32}
theorem ev_next1 (B : Bc t n mo sp dp M0) (h : CI M0 M out p co fc fp) (hp : p < e) (he : e ≤ n) : ∃ M', rX4_next (nI e) M = some (nI (t p), M') ∧ CI M0 M' out (p + 1) co fc fp := by
  obtain ⟨b1, b2, b3, b4, b5, b6, b7, b8, b9, b10⟩ := B
  have h0 := h
  obtain ⟨h1, h2, h3, h4, h5, h6, h7, h8, h9⟩ := h
  have t1 : M.1 1 1 = nI n := by rw [h1 1 (by decide) (by decide) (by decide) (by decide)]; exact b6
  have t2 : M.1 2 p = nI (t p) := by rw [h1 2 (by decide) (by decide) (by decide) (by decide)]; exact b7 p (by omega)
  refine ⟨st M 5 9 (nI (p + 1)), ?_, h0.spot _⟩
  unfold rX4_next rX0_get
  have c1 : ¬ n ≤ p := by omega
  have c2 : ¬ 1200 ≤ p := by omega
  simp (disch := omega) only [lt_e, bd2_some, Option.bind_some, k_0, k_1, k_2, k_3, k_4, k_5, k_6, k_7, k_8, k_9, k_10, k_11, k_12, k_13, k_15, k_20, k_60, k_75, k_80, k_127, k_128, k_255, k_256, k_600, k_1200, k_4000, k_20000, nI_leI, nI_ltI, nI_eq, nI_m1, Nat.not_lt_zero, Nat.zero_le, nI_add, pk_sub, nI_mul, nI_clamp, z_0, z_1, if_true, if_false, not_true_eq_false, not_false_eq_true, or_false, false_or, or_self, true_or, or_true, h4, t1, t2, hp, c1, c2]
theorem ev_next0 (h : CI M0 M out p co fc fp) (hp : e ≤ p) (he : e ≤ 1200) (hp2 : p < 100000) (hf : fc < 100) : ∃ M', rX4_next (nI e) M = some (-1, M') ∧ CI M0 M' out p co (if fc = 0 then 3 else fc) (if fc = 0 then nI e else fp) := by
  obtain ⟨M1, e1, k1⟩ := ev_fail (c := 3) (w := nI e) h hf (by decide)
  refine ⟨M1, ?_, k1⟩
  have h4 := h.2.2.2.1
  unfold rX4_next
  have c1 : ¬ p < e := by omega
  rw [← k_3] at e1
  simp (disch := omega) only [Option.bind_some, nI_ltI, if_false, h4, c1, e1]
theorem ev_has1 (h : CI M0 M out p co fc fp) (k : Nat) (hk : k + p ≤ e) (he : e ≤ 1200) : rX4_hasBytes (nI k) (nI e) M = some (1, M) := by
  have h4 := h.2.2.2.1
  unfold rX4_hasBytes
  have c1 : k ≤ e - p := by omega
  simp (disch := omega) only [lt_e, bd2_some, Option.bind_some, k_0, k_1, k_2, k_3, k_4, k_5, k_6, k_7, k_8, k_9, k_10, k_11, k_12, k_13, k_15, k_20, k_60, k_75, k_80, k_127, k_128, k_255, k_256, k_600, k_1200, k_4000, k_20000, nI_leI, nI_ltI, nI_eq, nI_m1, Nat.not_lt_zero, Nat.zero_le, nI_add, pk_sub, nI_mul, nI_clamp, z_0, z_1, if_true, if_false, not_true_eq_false, not_false_eq_true, or_false, false_or, or_self, true_or, or_true, h4, c1]
theorem ev_has0 (h : CI M0 M out p co fc fp) (k : Nat) (hk : ¬ k + p ≤ e) (hpe : p ≤ e) (he : e ≤ 1200) (hk2 : k < 100000) (hf : fc < 100) : ∃ M', rX4_hasBytes (nI k) (nI e) M = some (0, M') ∧ CI M0 M' out p co (if fc = 0 then 3 else fc) (if fc = 0 then nI e else fp) := by
  obtain ⟨M1, e1, k1⟩ := ev_fail (c := 3) (w := nI e) h hf (by decide)
  refine ⟨M1, ?_, k1⟩
  have h4 := h.2.2.2.1
  unfold rX4_hasBytes
  have c1 : ¬ k ≤ e - p := by omega
  rw [← k_3] at e1
  simp (disch := omega) only [Option.bind_some, nI_leI, pk_sub, if_false, h4, c1, e1]
  rfl
/-- the price of an item: 0, or the fault -/
def aPay (mo sp on co many cost : Nat) : Nat := if mo < on + many then 11 else if sp < co + cost then 12 else 0
theorem ev_can (B : Bc t n mo sp dp M0) (h : CI M0 M out p co 0 fp) (q many cost : Nat) (ho : out.length ≤ 4000) (hc : co ≤ 20000) (hm : many < 100000) (hco : cost < 200000) : ∃ M', rX4_canPay (nI q) (nI many) (nI cost) M = some (nI (if aPay mo sp out.length co many cost = 0 then 1 else 0), M') ∧ CI M0 M' out p co (aPay mo sp out.length co many cost) (if aPay mo sp out.length co many cost = 0 then fp else nI q) := by
  obtain ⟨b1, b2, b3, b4, b5, b6, b7, b8, b9, b10⟩ := B
  have h0 := h
  obtain ⟨h1, h2, h3, h4, h5, h6, h7, h8, h9⟩ := h
  have t6 : M.1 5 6 = nI mo := by rw [h2 6 (by decide) (by decide) (by decide) (by decide) (by decide) (by decide)]; exact b8
  have t7 : M.1 5 7 = nI sp := by rw [h2 7 (by decide) (by decide) (by decide) (by decide) (by decide) (by decide)]; exact b9
  unfold aPay rX4_canPay
  by_cases c1 : mo < out.length + many
  · obtain ⟨M1, e1, k1⟩ := ev_fail (c := 11) (w := nI q) h0 (by decide) (by decide)
    have c2 : ¬ out.length + many ≤ mo := by omega
    rw [← k_11] at e1
    refine ⟨M1, ?_, ?_⟩
    · simp (disch := omega) only [Option.bind_some, nI_leI, nI_add, if_false, if_true, h8, t6, c1, c2, e1]
      rfl
    · simp only [c1, if_true]
      exact k1
  · have c2 : out.length + many ≤ mo := by omega
    by_cases c3 : sp < co + cost
    · obtain ⟨M1, e1, k1⟩ := ev_fail (c := 12) (w := nI q) h0 (by decide) (by decide)
      have c4 : ¬ co + cost ≤ sp := by omega
      rw [← k_12] at e1
      refine ⟨M1, ?_, ?_⟩
      · simp (disch := omega) only [Option.bind_some, nI_leI, nI_add, if_false, if_true, h8, h5, t6, t7, c1, c2, c3, c4, e1]
        rfl
      · simp only [c1, c3, if_true, if_false]
        exact k1
    · have c4 : co + cost ≤ sp := by omega
      refine ⟨M, ?_, ?_⟩
      · simp (disch := omega) only [Option.bind_some, nI_leI, nI_add, if_false, if_true, h8, h5, t6, t7, c1, c2, c3, c4]
        rfl
      · simp only [c1, c3, if_true, if_false]
        exact h0
theorem ev_pay (B : Bc t n mo sp dp M0) (h : CI M0 M out p co 0 fp) (q many cost : Nat) (ho : out.length ≤ 4000) (hc : co ≤ 20000) (hm : many < 100000) (hco : cost < 200000) : ∃ M', rX4_pay (nI q) (nI many) (nI cost) M = some (nI (if aPay mo sp out.length co many cost = 0 then 1 else 0), M') ∧ CI M0 M' out p (if aPay mo sp out.length co many cost = 0 then co + cost else co) (aPay mo sp out.length co many cost) (if aPay mo sp out.length co many cost = 0 then fp else nI q) := by
  obtain ⟨M1, e1, k1⟩ := ev_can B h q many cost ho hc hm hco
  unfold rX4_pay
  by_cases c1 : aPay mo sp out.length co many cost = 0
  · simp only [c1, if_true] at e1 k1 ⊢
    refine ⟨st M1 5 12 (nI (co + cost)), ?_, k1.cost _⟩
    have h5 := k1.2.2.2.2.1
    rw [e1, bd2_some, if_neg (by decide), lt_e, h5, nI_add]
    rfl
  · simp only [c1, if_false] at e1 k1 ⊢
    refine ⟨M1, ?_, k1⟩
    rw [e1, bd2_some]
    rfl
end
