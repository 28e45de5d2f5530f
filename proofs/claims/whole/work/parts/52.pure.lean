def padU (f : Nat → Int32) (n e j : Nat) : Int32 := if j < n then f j else if j = n then 128 else if j < e - 8 then 0 else (uB8 (8 * (nI n).toInt64)).getD (j - (e - 8)) 0
def shaU (f : Nat → Int32) (n : Nat) : Nat → Int32 := if n + 9 ≤ 64 then blk sFS (mwd (padU f n 64) 0) else blk (blk sFS (mwd (padU f n 128) 0)) (mwd (padU f n 128) 64)
theorem mwd_congr {f g : Nat → Int32} {b e : Nat} (h : ∀ j, j < e → g j = f j) (hb : b + 64 ≤ e) : ∀ t, t < 16 → mwd g b t = mwd f b t := by
  intro t ht
  unfold mwd
  rw [h _ (by omega), h _ (by omega), h _ (by omega), h _ (by omega)]
/-- the message behind its last eight bytes -/
theorem padU_of {f g g2 : Nat → Int32} {n M e : Nat} (he : e = M + 8) (hM : n + 1 ≤ M) (h : ∀ j, j < M → g j = if j < n then f j else if j = n then 128 else 0) (h2 : g2 = ap g M (uB8 (8 * (nI n).toInt64))) : ∀ j, j < e → g2 j = padU f n e j := by
  intro j hj
  unfold padU
  rw [h2]
  by_cases hjM : j < M
  · rw [ap_lo _ _ _ hjM, h j hjM]
    by_cases h1 : j < n
    · rw [if_pos h1, if_pos h1]
    · rw [if_neg h1, if_neg h1]
      by_cases h3 : j = n
      · rw [if_pos h3, if_pos h3]
      · rw [if_neg h3, if_neg h3, if_pos (by omega)]
  · rw [if_neg (by omega), if_neg (by omega), if_neg (by omega)]
    have hq : j = M + (j - M) := by omega
    rw [hq, ap_in g M _ (show j - M < (uB8 (8 * (nI n).toInt64)).length by show j - M < 8; omega)]
    congr 1
    omega
theorem ub_0 : ub 0 0 = 0 := by decide
theorem ub_128 : ub 128 0 = 128 := by decide
