theorem jus_hs : ∀ n : Nat, n < 8 → (((nI (n * 4)).toUInt32 &&& Int32.toUInt32 31).toBitVec % 32).toNat = n * 4 := by decide
theorem jus_nI {N : Nat} (hN : N < 2 ^ 31) {n : Nat} (hn : n < 8) : jus (nI N) (nI (n * 4)) = nI (N / 2 ^ (n * 4)) := pk_ushrN (by omega) (nI (n * 4)) (n * 4) (jus_hs n hn)
theorem sh4 {a : Nat} (h : a < 2 ^ 31) : nI a >>> ((4 : Int32) &&& 31) = nI (a / 16) := pk_shrN h _ 4 (by decide)
theorem cnt_no1 {v h : Int32} (h1 : v ≤ 0) : cnt v h = 0 := by rw [cnt, if_pos (Or.inl h1)]
theorem nI_of3 {v : Int32} (h : ¬ v ≤ 0) : ∃ N : Nat, 0 < N ∧ N < 2 ^ 31 ∧ v = nI N := by
  obtain ⟨N, hN, rfl⟩ := nI_of (x := v) (fun g => h (Int32.le_of_lt g))
  refine ⟨N, ?_, hN, rfl⟩
  rcases Nat.eq_zero_or_pos N with e | e
  · subst e; exact absurd (show nI 0 ≤ 0 by decide) h
  · exact e
theorem cnt_no2 {v h : Int32} (h1 : ¬ v ≤ 0) (h2 : ¬ v < 16777216) : cnt v h = 0 := by
  obtain ⟨N, h0, hN, rfl⟩ := nI_of3 h1
  have hb : 16777216 ≤ N := by
    rcases Nat.lt_or_ge N 16777216 with g | g
    · exact absurd (nI_lt (b := 16777216) g (by decide)) h2
    · exact g
  rw [cnt, if_pos (Or.inr ?_)]
  rw [show (24 : Int32) = nI (6 * 4) from rfl, jus_nI hN (by decide)]
  refine nI_ne0 (Nat.div_pos (by omega) (by decide)) (Nat.lt_of_le_of_lt (Nat.div_le_self _ _) hN)
theorem cnt_go {v h : Int32} {N : Nat} (hv : v = nI N) (h1 : ¬ v ≤ 0) (hN : N < 16777216) : cpt v h (6 - 0) 0 = cnt v h := by
  rw [cnt, if_neg]
  rintro (g | g)
  · exact h1 g
  · refine g ?_
    rw [hv, show (24 : Int32) = nI (6 * 4) from rfl, jus_nI (by omega) (by decide), Nat.div_eq_of_lt (by omega)]
    rfl
theorem cnt_N {v : Int32} (h1 : ¬ v ≤ 0) (h2 : v < 16777216) : ∃ N : Nat, 0 < N ∧ N < 16777216 ∧ v = nI N := by
  obtain ⟨N, h0, hN, rfl⟩ := nI_of3 h1
  exact ⟨N, h0, (nI_ltI (b := 16777216) hN (by decide)).mp h2, rfl⟩
section CN
variable {v : Int32} {h N n R : Nat}
theorem cn_b (hN : N < 16777216) (hR : R = N / 2 ^ (n * 4)) : R < 16777216 := by rw [hR]; exact Nat.lt_of_le_of_lt (Nat.div_le_self _ _) hN
theorem cn_j (hv : v = nI N) (hN : N < 16777216) (hR : R = N / 2 ^ (n * 4)) (hn : n ≤ 6) : jus v (nI (n * 4)) = nI R := by rw [hv, jus_nI (by omega) (by omega), hR]
theorem cn_6 (hN : N < 16777216) (hR : R = N / 2 ^ (n * 4)) (h6 : n = 6) : R = 0 := by subst h6; rw [hR]; exact Nat.div_eq_of_lt (by omega)
theorem cn_end (hv : v = nI N) (hN : N < 16777216) (hR : R = N / 2 ^ (n * 4)) (hn : n ≤ 6) (hc : cpt v (nI h) (6 - n) n = cnt v (nI h)) (h0 : R ≤ 0) : cnt v (nI h) = n := by
  rw [← hc]
  rcases Nat.lt_or_ge n 6 with g | g
  · rw [cpt_z (by omega) (by rw [cn_j hv hN hR hn, show R = 0 by omega]; rfl)]
  · have e : n = 6 := by omega
    subst e
    rfl
theorem cn_bad (hv : v = nI N) (hN : N < 16777216) (hR : R = N / 2 ^ (n * 4)) (hn : n ≤ 6) (hh : h < 16) (hc : cpt v (nI h) (6 - n) n = cnt v (nI h)) (h0 : ¬ R ≤ 0) (hb : R % 16 = 0 ∨ ¬ R % 16 ≤ h) : cnt v (nI h) = 0 := by
  have b := cn_b hN hR
  have h6 : n < 6 := by
    rcases Nat.lt_or_ge n 6 with g | g
    · exact g
    · have := cn_6 hN hR (show n = 6 by omega); omega
  rw [← hc]
  refine cpt_b (by omega) ?_ ?_
  · rw [cn_j hv hN hR hn]; exact nI_ne0 (by omega) (by omega)
  · rw [cn_j hv hN hR hn, pk_andN (n := R) (by omega) 4 (by decide)]
    rcases hb with g | g
    · exact Or.inl (by rw [show R % 2 ^ 4 = 0 from g]; rfl)
    · exact Or.inr (nI_lt (show h < R % 2 ^ 4 from by omega) (by omega))
theorem cn_step (hv : v = nI N) (hN : N < 16777216) (hR : R = N / 2 ^ (n * 4)) (hn : n ≤ 6) (hh : h < 16) (hc : cpt v (nI h) (6 - n) n = cnt v (nI h)) (h0 : ¬ R ≤ 0) (h1 : ¬ R % 16 = 0) (h2 : R % 16 ≤ h) : n + 1 ≤ 6 ∧ R / 16 = N / 2 ^ ((n + 1) * 4) ∧ cpt v (nI h) (6 - (n + 1)) (n + 1) = cnt v (nI h) := by
  have b := cn_b hN hR
  have h6 : n < 6 := by
    rcases Nat.lt_or_ge n 6 with g | g
    · exact g
    · have := cn_6 hN hR (show n = 6 by omega); omega
  refine ⟨by omega, by rw [hR, Nat.div_div_eq_div_mul, show (n + 1) * 4 = n * 4 + 4 by omega, Nat.pow_add], ?_⟩
  refine Eq.trans (Eq.symm (cpt_s (k := 6 - n) (n := n) (by omega) ?_ ?_)) hc
  · rw [cn_j hv hN hR hn]; exact nI_ne0 (by omega) (by omega)
  · rw [cn_j hv hN hR hn, pk_andN (n := R) (by omega) 4 (by decide)]
    rintro (g | g)
    · exact absurd ((nI_eq (by omega) (by omega)).mp (g.trans nI_0.symm)) (show ¬ R % 2 ^ 4 = 0 from h1)
    · exact absurd g (nI_nlt (show R % 2 ^ 4 ≤ h from h2) (by omega))
end CN
