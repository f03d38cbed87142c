def TpC (t : Nat → Nat) (n : Nat) (M : Mm) : Prop := n ≤ 1200 ∧ (∀ i, i < n → t i < 256) ∧ M.1 1 1 = nI n ∧ ∀ i, i < n → M.1 2 i = nI (t i)
theorem nI_sur (x : Int32) : ∃ p, x = nI p := by
  refine ⟨x.toBitVec.toNat, ?_⟩
  apply Int32.toBitVec_inj.mp
  unfold nI
  apply BitVec.eq_of_toNat_eq
  rw [show (Int32.ofNat x.toBitVec.toNat).toBitVec.toNat = x.toBitVec.toNat from pk_tn x.toBitVec.isLt]
theorem e_read {t : Nat → Nat} {n mo sp dp on : Nat} {M : Mm} (hT : TpC t n M) (h1 : mo ≤ 4000) (h2 : sp ≤ 20000) (h3 : dp ≤ 8) (h6 : M.1 6 1 = nI on) (hon : on ≤ 4000) :
    ∃ M' p', rX4_read (nI mo) (nI sp) (nI dp) M = some (nI (aPack t mo sp dp 10 0 n 0 ([], 0, 0, 0) []).1, M') ∧ VW M' p' (aPack t mo sp dp 10 0 n 0 ([], 0, 0, 0) []).2.2.2.1 (aPack t mo sp dp 10 0 n 0 ([], 0, 0, 0) []).1 (aPack t mo sp dp 10 0 n 0 ([], 0, 0, 0) []).2.1 ∧ IV M' (aPack t mo sp dp 10 0 n 0 ([], 0, 0, 0) []).2.2.2.2 ∧ M'.1 5 17 = M.1 5 17 + 1 ∧ (∀ c, (c < 5 ∨ c = 8 ∨ c = 19 ∨ 29 < c) → M'.1 c = M.1 c) ∧ M'.2 = M.2 := by
  obtain ⟨t1, t2, t3, t4⟩ := hT
  obtain ⟨p0, hp0⟩ := nI_sur (M.1 5 9)
  have hu : rX4_read (nI mo) (nI sp) (nI dp) M = rX4_read (nI mo) (nI sp) (nI dp) M := rfl
  conv at hu =>
    rhs
    unfold rX4_read rX0_keepFirst
    simp only [lt_e, Option.bind_some]
  obtain ⟨M9, hM9⟩ : ∃ M9, M9 = st (st (st (st (st (st (st (st (st M 5 6 (nI mo)) 5 7 (nI sp)) 5 8 (nI dp)) 5 12 0) 5 13 0) 5 14 0) 5 15 0) 5 16 (-1)) 9 5 0 := ⟨_, rfl⟩
  rw [← hM9] at hu
  have q6 : M9.1 6 1 = nI on := by rw [hM9, st_ne (by decide), st_ne (by decide), st_ne (by decide), st_ne (by decide), st_ne (by decide), st_ne (by decide), st_ne (by decide), st_ne (by decide), st_ne (by decide)]; exact h6
  have qz : ¬ nI on < (0 : Int32) := nI_pos (by omega)
  rw [q6, if_neg qz, if_neg (show ¬ (0 : Int32) < 0 by decide)] at hu
  obtain ⟨M12, hM12⟩ : ∃ M12, M12 = st (st M9 6 1 0) 5 17 ((st M9 6 1 0).1 5 17 + 1) := ⟨_, rfl⟩
  rw [← hM12] at hu
  have hcell : ∀ c, c ≠ 5 → c ≠ 6 → c ≠ 9 → M12.1 c = M.1 c := fun c a b d => by
    rw [hM12, st_ne a, st_ne b, hM9, st_ne d, st_ne a, st_ne a, st_ne a, st_ne a, st_ne a, st_ne a, st_ne a, st_ne a]
  have h5 : M12.1 5 = upd (upd (upd (upd (upd (upd (upd (upd (upd (M.1 5) 6 (nI mo)) 7 (nI sp)) 8 (nI dp)) 12 0) 13 0) 14 0) 15 0) 16 (-1)) 17 (M.1 5 17 + 1) := by
    rw [hM12, st_eq, st_ne (show (5 : Nat) ≠ 6 by decide), hM9, st_ne (show (5 : Nat) ≠ 9 by decide), st_eq, st_eq, st_eq, st_eq, st_eq, st_eq, st_eq, st_eq]
    rfl
  have hB : Bc t n mo sp dp M12 := by
    refine ⟨t1, t2, h1, h2, h3, ?_, ?_, ?_, ?_, ?_⟩
    · rw [hcell 1 (by decide) (by decide) (by decide)]; exact t3
    · rw [hcell 2 (by decide) (by decide) (by decide)]; exact t4
    · rw [h5]; rfl
    · rw [h5]; rfl
    · rw [h5]; rfl
  have hV : VW M12 p0 ([], 0, 0, 0) 0 (-1) := by
    refine ⟨?_, ?_, ?_, ?_, ?_, ?_, ?_, fun i hi => (by cases hi)⟩
    · rw [h5]; exact hp0
    · rw [h5]; rfl
    · rw [h5]; rfl
    · rw [h5]; rfl
    · rw [h5]; rfl
    · rw [h5]; rfl
    · rw [hM12, st_ne (by decide), st_eq, upd_s]; rfl
  have hI : IV M12 [] := ⟨by rw [hM12, st_ne (by decide), st_ne (by decide), hM9, st_eq, upd_s]; rfl, fun k hk => (by cases hk)⟩
  obtain ⟨M', e1, ⟨⟨p', -, v1⟩, i1⟩, f1⟩ := e_pack (t := t) (n := n) (mo := mo) (sp := sp) (dp := dp) 10 0 0 n 0 p0 ([], 0, 0, 0) [] M12 (by decide) (by decide) hB hV (by omega) (Nat.le_refl n) (by decide) ⟨Nat.le_refl _, Nat.zero_le _, Nat.le_refl _, Nat.zero_le _, by decide, by decide⟩ (fun _ => ⟨hI, rfl⟩)
  refine ⟨M', p', ?_, v1, i1 rfl, ?_, ?_, ?_⟩
  · rw [hu, hcell 1 (by decide) (by decide) (by decide), t3, show rX4_readPack FR 0 (nI n) 0 0 M12 = some M' from e1, Option.bind_some, v1.2.2.2.2.1]
  · rw [f1.2.2.2.1 17 (by decide), h5, upd_s]
  · intro c hc
    rw [f1.1 c (by omega) (by omega) (by omega) (by omega) (by omega) (by omega), hcell c (by omega) (by omega) (by omega)]
  · rw [f1.2.2.2.2, hM12, hM9]; rfl
