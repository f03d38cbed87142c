/-- the reference's reader: OUT, the cost, the fault; all else as in M0 -/
def RI (M0 M : Mm) (out : List Nat) (co fc : Nat) (fp : Int32) : Prop :=
  (∀ c, c ≠ 31 → c ≠ 33 → c ≠ 47 → M.1 c = M0.1 c) ∧ (∀ j, j ≠ 4 → j ≠ 8 → j ≠ 9 → j ≠ 10 → M.1 31 j = M0.1 31 j) ∧ M.2 = M0.2 ∧ M.1 31 10 = nI co ∧ M.1 31 8 = nI fc ∧ M.1 31 9 = fp ∧ M.1 31 4 = nI out.length ∧ (∀ i, i < out.length → M.1 33 i = nI (out.getD i 0))
def Br (t : Nat → Nat) (n mo sp d e : Nat) (M : Mm) : Prop := n ≤ 1200 ∧ (∀ i, i < n → t i < 256) ∧ mo ≤ 4000 ∧ sp ≤ 20000 ∧ d ≤ 8 ∧ e ≤ n ∧ (∀ i, i < n → M.1 32 i = nI (t i)) ∧ M.1 31 5 = nI mo ∧ M.1 31 6 = nI sp ∧ M.1 31 14 = nI (d + 1) ∧ M.1 35 d = nI e
section
variable {t : Nat → Nat} {n mo sp d e : Nat} {M0 M : Mm} {out : List Nat} {p co fc : Nat} {fp : Int32}
theorem RI.fl (h : RI M0 M out co fc fp) (c : Nat) (w : Int32) : rX7_fails (nI c) w M = some (st (st M 31 8 (nI c)) 31 9 w) ∧ RI M0 (st (st M 31 8 (nI c)) 31 9 w) out co c w := by
  refine ⟨rfl, ?_⟩
  obtain ⟨h1, h2, h3, h4, h5, h6, h7, h8⟩ := h
  refine ⟨fun c a b d => ?_, fun j a b d e => ?_, h3, ?_, ?_, ?_, ?_, ?_⟩
  · rw [st_ne a, st_ne a]; exact h1 c a b d
  · rw [st_eq, upd_n d, st_eq, upd_n b]; exact h2 j a b d e
  · rw [st_eq, upd_n (by decide), st_eq, upd_n (by decide)]; exact h4
  · rw [st_eq, upd_n (by decide), st_eq, upd_s]
  · rw [st_eq, upd_s]
  · rw [st_eq, upd_n (by decide), st_eq, upd_n (by decide)]; exact h7
  · rw [st_ne (by decide), st_ne (by decide)]; exact h8
theorem RI.tp (B : Br t n mo sp d e M0) (h : RI M0 M out co fc fp) {i : Nat} (hi : i < n) : M.1 32 i = nI (t i) := by
  rw [h.1 32 (by decide) (by decide) (by decide)]; exact B.2.2.2.2.2.2.1 i hi
theorem RI.top (B : Br t n mo sp d e M0) (h : RI M0 M out co fc fp) : M.1 31 14 - 1 = nI d ∧ M.1 35 d = nI e ∧ d ≤ 8 := by
  obtain ⟨b1, b2, b3, b4, b5, b6, b7, b8, b9, b10, b11⟩ := B
  refine ⟨?_, ?_, b5⟩
  · rw [h.2.1 14 (by decide) (by decide) (by decide) (by decide), b10, k_1, pk_sub (by omega), Nat.add_sub_cancel]
  · rw [h.1 35 (by decide) (by decide) (by decide)]; exact b11
theorem rv_has1 (B : Br t n mo sp d e M0) (h : RI M0 M out co 0 fp) {a k : Nat} (hk : a + k ≤ e) : rX7_has (nI a) (nI k) M = some (1, M) := by
  obtain ⟨t1, t2, t3⟩ := h.top B
  have b1 := B.1
  have b6 := B.2.2.2.2.2.1
  unfold rX7_has rX7_has_b33
  rw [t1, nI_clamp (by omega), if_neg (fun q => q.elim (nI_pos (by omega)) (by omega)), t2, nI_add, if_pos ((nI_leI (by omega) (by omega)).mpr hk), h.2.2.2.2.1, if_pos (show nI 0 = 0 from rfl)]
  rfl
theorem rv_has0 (B : Br t n mo sp d e M0) (h : RI M0 M out co 0 fp) {a k : Nat} (hk : e < a + k) (hb : a + k < 1000000) : ∃ M', rX7_has (nI a) (nI k) M = some (0, M') ∧ RI M0 M' out co 3 (nI e) := by
  obtain ⟨t1, t2, t3⟩ := h.top B
  have b1 := B.1
  have b6 := B.2.2.2.2.2.1
  obtain ⟨f1, f2⟩ := h.fl 3 (nI e)
  refine ⟨_, ?_, f2⟩
  unfold rX7_has rX7_has_b33
  rw [t1, nI_clamp (by omega), if_neg (fun q => q.elim (nI_pos (by omega)) (by omega)), t2, nI_add, if_neg (by rw [nI_leI (by omega) (by omega)]; omega), if_neg (fun q => q.elim (nI_pos (by omega)) (by omega)), k_3, f1, Option.bind_some, f2.2.2.2.2.1]
  rfl
theorem RI.cost (h : RI M0 M out co fc fp) (c' : Nat) : RI M0 (st M 31 10 (nI c')) out c' fc fp := by
  obtain ⟨h1, h2, h3, h4, h5, h6, h7, h8⟩ := h
  refine ⟨fun c a b d => ?_, fun j a b d e => ?_, h3, ?_, ?_, ?_, ?_, ?_⟩
  · rw [st_ne a]; exact h1 c a b d
  · rw [st_eq, upd_n e]; exact h2 j a b d e
  · rw [st_eq, upd_s]
  · rw [st_eq, upd_n (by decide)]; exact h5
  · rw [st_eq, upd_n (by decide)]; exact h6
  · rw [st_eq, upd_n (by decide)]; exact h7
  · rw [st_ne (by decide)]; exact h8
theorem rv_pay (B : Br t n mo sp d e M0) (h : RI M0 M out co 0 (-1)) (q cost many : Nat) (ho : out.length ≤ 4000) (hc : co ≤ 20000) (hm : many < 100000) (hco : cost < 200000) : ∃ M', rX7_pays (nI q) (nI cost) (nI many) M = some (nI (if aPay mo sp out.length co many cost = 0 then 1 else 0), M') ∧ RI M0 M' out (if aPay mo sp out.length co many cost = 0 then co + cost else co) (aPay mo sp out.length co many cost) (if aPay mo sp out.length co many cost = 0 then -1 else nI q) := by
  obtain ⟨b1, b2, b3, b4, b5, b6, b7, b8, b9, b10, b11⟩ := B
  have t5 : M.1 31 5 = nI mo := by rw [h.2.1 5 (by decide) (by decide) (by decide) (by decide)]; exact b8
  have t6 : M.1 31 6 = nI sp := by rw [h.2.1 6 (by decide) (by decide) (by decide) (by decide)]; exact b9
  unfold aPay rX7_pays rX7_pays_b56
  rw [h.2.2.2.2.2.2.1, t5, nI_add, h.2.2.2.1, t6, nI_add]
  by_cases c1 : mo < out.length + many
  · obtain ⟨f1, f2⟩ := h.fl 11 (nI q)
    rw [if_neg (by rw [nI_leI (by omega) (by omega)]; omega), k_11, f1, Option.bind_some, f2.2.2.2.2.1]
    simp only [c1, if_true]
    exact ⟨_, rfl, f2⟩
  · rw [if_pos ((nI_leI (by omega) (by omega)).mpr (by omega))]
    by_cases c3 : sp < co + cost
    · obtain ⟨f1, f2⟩ := h.fl 12 (nI q)
      rw [if_neg (by rw [nI_leI (by omega) (by omega)]; omega), k_12, f1, Option.bind_some, f2.2.2.2.2.1]
      simp only [c1, c3, if_true, if_false]
      exact ⟨_, rfl, f2⟩
    · have f2 := h.cost (co + cost)
      rw [if_pos ((nI_leI (by omega) (by omega)).mpr (by omega)), lt_e, f2.2.2.2.2.1]
      simp only [c1, c3, if_true, if_false]
      exact ⟨_, rfl, f2⟩
theorem RI.app (h : RI M0 M out co fc fp) (b : Nat) : RI M0 (st (st M 33 out.length (nI b)) 31 4 (nI (out.length + 1))) (out ++ [b]) co fc fp := by
  obtain ⟨h1, h2, h3, h4, h5, h6, h7, h8⟩ := h
  refine ⟨fun c a b d => ?_, fun j a b d e => ?_, h3, ?_, ?_, ?_, ?_, ?_⟩
  · rw [st_ne a, st_ne b]; exact h1 c a b d
  · rw [st_eq, upd_n a, st_ne (by decide)]; exact h2 j a b d e
  · rw [st_eq, upd_n (by decide), st_ne (by decide)]; exact h4
  · rw [st_eq, upd_n (by decide), st_ne (by decide)]; exact h5
  · rw [st_eq, upd_n (by decide), st_ne (by decide)]; exact h6
  · rw [st_eq, upd_s]; simp
  · intro i hi
    rw [st_ne (by decide), st_eq, getD_app]
    simp only [List.length_append, List.length_cons, List.length_nil] at hi
    by_cases h2 : i < out.length
    · rw [if_pos h2, upd_n (by omega)]; exact h8 i h2
    · rw [if_neg h2, if_pos (by omega), show i = out.length by omega, upd_s]
theorem rv_come (h : RI M0 M out co fc fp) (b : Nat) (ho : out.length < 4000) : ∃ M', rX7_comes (nI b) M = some M' ∧ RI M0 M' (out ++ [b]) co fc fp := by
  refine ⟨_, ?_, h.app b⟩
  unfold rX7_comes
  have q : (st M 33 out.length (nI b)).1 31 4 = nI out.length := by rw [st_ne (by decide)]; exact h.2.2.2.2.2.2.1
  rw [h.2.2.2.2.2.2.1, nI_clamp (by omega), if_neg (fun q => q.elim (nI_pos (by omega)) (by omega)), lt_e, lt_e, q, k_1, nI_add]
/-- what an item's own method comes to: the fault's state, or the item's end -/
def RR (M0 : Mm) (d : Nat) (x : Option Mm) (r : Rs) : Prop := ∃ M2, RI M0 M2 r.2.2.2.1 r.2.2.2.2 r.1 r.2.1 ∧ x = if r.1 = 0 then rX7_ends (nI d) (nI r.2.2.1) M2 else some M2
theorem RR.no {c w : Nat} (h : RI M0 M out co c (nI w)) (hc : c ≠ 0) : RR M0 d (some M) (rf c w out co) := ⟨M, h, (if_neg hc).symm⟩
theorem RR.ok (h : RI M0 M out co 0 (-1)) : RR M0 d (rX7_ends (nI d) (nI p) M) (rk p out co) := ⟨M, h, (if_pos rfl).symm⟩
theorem bind_id {α : Type _} (x : Option α) : (Option.bind x fun y => some y) = x := by cases x <;> rfl
theorem nocl {a k : Nat} (h : a < k) (hk : k < 2 ^ 31) : ¬ (nI a < 0 ∨ k ≤ (nI a).toNatClampNeg) := by
  rw [nI_clamp (by omega)]
  exact fun q => q.elim (nI_pos (by omega)) (by omega)
theorem lr_stored (B : Br t n mo sp d e M0) (hp : t p = 1) : ∀ (k fuel i : Nat) (M : Mm) (out : List Nat), k < fuel → RI M0 M out co 0 (-1) → i + k = t (p + 1) → p + 2 + t (p + 1) ≤ e → out.length + k ≤ 4000 → ∃ M', rX7_item_b198 fuel (nI d) (nI p) (nI i) M = rX7_ends (nI d) (nI (p + 2 + t (p + 1))) M' ∧ RI M0 M' (apn (fun j _ => t (p + 2 + j)) k i out) co 0 (-1) := by
  have b1 := B.1
  have b6 := B.2.2.2.2.2.1
  intro k
  induction k with
  | zero =>
    intro fuel i M out hf h hi hn ho
    obtain ⟨f, rfl⟩ : ∃ f, fuel = f + 1 := ⟨fuel - 1, by omega⟩
    refine ⟨M, ?_, h⟩
    show rX7_item_b198_s (rX7_item_b198 f) _ _ _ M = _
    unfold rX7_item_b198_s rX7_item_b240
    have tq := h.tp B (i := p + 1) (by omega)
    rw [k_1, nI_add, if_neg (nocl (by omega) (by decide)), nI_clamp (by omega), tq, if_pos ((nI_leI (by omega) (by omega)).mpr (by omega)), if_neg (show ¬ (nI (p + 1) < 0 ∨ 1200 ≤ p + 1) from fun q => q.elim (nI_pos (by omega)) (by omega)), k_2, nI_add, nI_add, bind_id]
  | succ k ih =>
    intro fuel i M out hf h hi hn ho
    obtain ⟨f, rfl⟩ : ∃ f, fuel = f + 1 := ⟨fuel - 1, by omega⟩
    obtain ⟨M1, e1, h1⟩ := rv_come h (t (p + 2 + i)) (by omega)
    obtain ⟨M2, e2, h2⟩ := ih f (i + 1) M1 _ (by omega) h1 (by omega) hn (by simp; omega)
    refine ⟨M2, ?_, h2⟩
    have tq := h.tp B (i := p + 1) (by omega)
    have tq0 := h.tp B (i := p) (by omega)
    have tq2 := h.tp B (i := p + 2 + i) (by omega)
    show rX7_item_b198_s (rX7_item_b198 f) _ _ _ M = _
    unfold rX7_item_b198_s
    rw [k_1, nI_add, if_neg (nocl (by omega) (by decide)), nI_clamp (by omega), tq, if_neg (by rw [nI_leI (by omega) (by omega)]; omega), if_neg (nocl (by omega) (by decide)), nI_clamp (n := p) (by omega), tq0, hp, if_pos rfl, k_2, nI_add, nI_add, if_neg (nocl (by omega) (by decide)), nI_clamp (by omega), tq2, e1, Option.bind_some, lt_e, nI_add]
    exact e2
theorem lr_note (B : Br t n mo sp d e M0) (hp : t p = 5) (h : RI M0 M out co 0 (-1)) (hn : p + 2 + t (p + 1) ≤ e) : rX7_item_b198 FU (nI d) (nI p) (nI 0) M = rX7_ends (nI d) (nI (p + 2 + t (p + 1))) M := by
  have b1 := B.1
  have b6 := B.2.2.2.2.2.1
  show rX7_item_b198_s (rX7_item_b198 99999) _ _ _ M = _
  unfold rX7_item_b198_s rX7_item_b240
  have tq := h.tp B (i := p + 1) (by omega)
  have tq0 := h.tp B (i := p) (by omega)
  have z : (if nI (p + 1) < 0 ∨ 1200 ≤ (nI (p + 1)).toNatClampNeg then none else Option.bind (rX7_ends (nI d) (nI p + 2 + M.1 32 (nI (p + 1)).toNatClampNeg) M) fun M41 => some M41) = rX7_ends (nI d) (nI (p + 2 + t (p + 1))) M := by
    rw [if_neg (nocl (by omega) (by decide)), nI_clamp (by omega), tq, k_2, nI_add, nI_add, bind_id]
  rw [k_1, nI_add, z, if_neg (nocl (by omega) (by decide)), nI_clamp (n := p + 1) (by omega), tq, if_neg (nocl (a := p) (by omega) (by decide)), nI_clamp (n := p) (by omega), tq0, hp, if_neg (show ¬ nI 5 = nI 1 by decide), ite_self]
theorem lr_run (B : Br t n mo sp d e M0) : ∀ (k fuel i : Nat) (M : Mm) (out : List Nat), k < fuel → RI M0 M out co 0 (-1) → i + k = t (p + 1) → p + 3 ≤ e → out.length + k ≤ 4000 → ∃ M', rX7_item_b297 fuel (nI d) (nI p) (nI i) M = rX7_ends (nI d) (nI (p + 3)) M' ∧ RI M0 M' (apn (fun _ _ => t (p + 2)) k i out) co 0 (-1) := by
  have b1 := B.1
  have b6 := B.2.2.2.2.2.1
  have b2 := B.2.1
  intro k
  induction k with
  | zero =>
    intro fuel i M out hf h hi hn ho
    obtain ⟨f, rfl⟩ : ∃ f, fuel = f + 1 := ⟨fuel - 1, by omega⟩
    refine ⟨M, ?_, h⟩
    have tb := b2 (p + 1) (by omega)
    show rX7_item_b297_s (rX7_item_b297 f) _ _ _ M = _
    unfold rX7_item_b297_s
    have tq := h.tp B (i := p + 1) (by omega)
    rw [k_1, nI_add, if_neg (nocl (by omega) (by decide)), nI_clamp (by omega), tq, if_pos ((nI_leI (by omega) (by omega)).mpr (by omega)), k_3, nI_add, bind_id]
  | succ k ih =>
    intro fuel i M out hf h hi hn ho
    obtain ⟨f, rfl⟩ : ∃ f, fuel = f + 1 := ⟨fuel - 1, by omega⟩
    have tb := b2 (p + 1) (by omega)
    obtain ⟨M1, e1, h1⟩ := rv_come h (t (p + 2)) (by omega)
    obtain ⟨M2, e2, h2⟩ := ih f (i + 1) M1 _ (by omega) h1 (by omega) hn (by simp; omega)
    refine ⟨M2, ?_, h2⟩
    have tq := h.tp B (i := p + 1) (by omega)
    have tq2 := h.tp B (i := p + 2) (by omega)
    show rX7_item_b297_s (rX7_item_b297 f) _ _ _ M = _
    unfold rX7_item_b297_s
    rw [k_1, nI_add, if_neg (nocl (by omega) (by decide)), nI_clamp (by omega), tq, if_neg (by rw [nI_leI (by omega) (by omega)]; omega), k_2, nI_add, if_neg (nocl (by omega) (by decide)), nI_clamp (by omega), tq2, e1, Option.bind_some, lt_e, nI_add]
    exact e2
theorem lr_copy (B : Br t n mo sp d e M0) (dst : Nat) (hd0 : 0 < dst) : ∀ (k fuel i : Nat) (M : Mm) (out : List Nat), k < fuel → RI M0 M out co 0 (-1) → i + k = t (p + 2) → p + 3 ≤ e → dst ≤ out.length → out.length + k ≤ 4000 → ∃ M', rX7_copy_b87 fuel (nI d) (nI p) (nI dst) (nI i) M = rX7_ends (nI d) (nI (p + 3)) M' ∧ RI M0 M' (apn (fun _ o => o.getD (o.length - dst) 0) k i out) co 0 (-1) := by
  have b1 := B.1
  have b6 := B.2.2.2.2.2.1
  have b2 := B.2.1
  intro k
  induction k with
  | zero =>
    intro fuel i M out hf h hi hn hdo ho
    obtain ⟨f, rfl⟩ : ∃ f, fuel = f + 1 := ⟨fuel - 1, by omega⟩
    refine ⟨M, ?_, h⟩
    have tb := b2 (p + 2) (by omega)
    show rX7_copy_b87_s (rX7_copy_b87 f) _ _ _ _ M = _
    unfold rX7_copy_b87_s
    have tq := h.tp B (i := p + 2) (by omega)
    rw [k_2, nI_add, if_neg (nocl (by omega) (by decide)), nI_clamp (by omega), tq, if_pos ((nI_leI (by omega) (by omega)).mpr (by omega)), k_3, nI_add, bind_id]
  | succ k ih =>
    intro fuel i M out hf h hi hn hdo ho
    obtain ⟨f, rfl⟩ : ∃ f, fuel = f + 1 := ⟨fuel - 1, by omega⟩
    have tb := b2 (p + 2) (by omega)
    obtain ⟨M1, e1, h1⟩ := rv_come h (out.getD (out.length - dst) 0) (by omega)
    obtain ⟨M2, e2, h2⟩ := ih f (i + 1) M1 _ (by omega) h1 (by omega) hn (by simp; omega) (by simp; omega)
    refine ⟨M2, ?_, h2⟩
    have tq := h.tp B (i := p + 2) (by omega)
    have ho8 := h.2.2.2.2.2.2.2 (out.length - dst) (by omega)
    show rX7_copy_b87_s (rX7_copy_b87 f) _ _ _ _ M = _
    unfold rX7_copy_b87_s
    rw [k_2, nI_add, if_neg (nocl (by omega) (by decide)), nI_clamp (by omega), tq, if_neg (by rw [nI_leI (by omega) (by omega)]; omega), h.2.2.2.2.2.2.1, pk_sub hdo, if_neg (nocl (by omega) (by decide)), nI_clamp (by omega), ho8, e1, Option.bind_some, lt_e, k_1, nI_add]
    exact e2
theorem lr_again (B : Br t n mo sp d e M0) (oa w : Nat) (hoa : M0.1 37 d = nI oa) : ∀ (k fuel i : Nat) (M : Mm) (out : List Nat), k < fuel → RI M0 M out co 0 (-1) → i + k = w → oa + w ≤ out.length → out.length + k ≤ 4000 → ∃ M', rX7_again_b69 fuel (nI d) (nI p) (nI w) (nI i) M = rX7_ends (nI d) (nI (p + 2)) M' ∧ RI M0 M' (apn (fun j o => o.getD (oa + j) 0) k i out) co 0 (-1) := by
  have b5 := B.2.2.2.2.1
  intro k
  induction k with
  | zero =>
    intro fuel i M out hf h hi hn ho
    obtain ⟨f, rfl⟩ : ∃ f, fuel = f + 1 := ⟨fuel - 1, by omega⟩
    refine ⟨M, ?_, h⟩
    show rX7_again_b69_s (rX7_again_b69 f) _ _ _ _ M = _
    unfold rX7_again_b69_s
    rw [if_pos ((nI_leI (by omega) (by omega)).mpr (by omega)), k_2, nI_add, bind_id]
  | succ k ih =>
    intro fuel i M out hf h hi hn ho
    obtain ⟨f, rfl⟩ : ∃ f, fuel = f + 1 := ⟨fuel - 1, by omega⟩
    obtain ⟨M1, e1, h1⟩ := rv_come h (out.getD (oa + i) 0) (by omega)
    obtain ⟨M2, e2, h2⟩ := ih f (i + 1) M1 _ (by omega) h1 (by omega) (by simp; omega) (by simp; omega)
    refine ⟨M2, ?_, h2⟩
    have ho8 := h.2.2.2.2.2.2.2 (oa + i) (by omega)
    have hq : M.1 37 d = nI oa := by rw [h.1 37 (by decide) (by decide) (by decide)]; exact hoa
    show rX7_again_b69_s (rX7_again_b69 f) _ _ _ _ M = _
    unfold rX7_again_b69_s
    rw [if_neg (by rw [nI_leI (by omega) (by omega)]; omega), if_neg (nocl (by omega) (by decide)), nI_clamp (n := d) (by omega), hq, nI_add, if_neg (nocl (by omega) (by decide)), nI_clamp (by omega), ho8, e1, Option.bind_some, lt_e, k_1, nI_add]
    exact e2
end
