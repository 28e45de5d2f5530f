def may (role x : Int32) : Prop := if role = 1 then x = 2 else role = 2 ∧ ¬ x < 3 ∧ ¬ 10 ≤ x
/-- the parts of v from place n on, at most k more looked at -/
def cpt (v h : Int32) : Nat → Nat → Nat
  | 0, n => n
  | k + 1, n => if jus v (nI (n * 4)) = 0 then n else if (jus v (nI (n * 4)) &&& 15) = 0 ∨ h < (jus v (nI (n * 4)) &&& 15) then 0 else cpt v h k (n + 1)
/-- how many parts v has, or 0 -/
def cnt (v h : Int32) : Nat := if v ≤ 0 ∨ ¬ jus v 24 = 0 then 0 else cpt v h 6 0
theorem cpt_le (v h : Int32) : ∀ k n, cpt v h k n ≤ n + k := by
  intro k
  induction k with
  | zero => intro n; exact Nat.le_refl n
  | succ k ih =>
    intro n
    unfold cpt
    split
    · omega
    · split
      · omega
      · have := ih (n + 1)
        omega
theorem cnt_le (v h : Int32) : cnt v h ≤ 6 := by
  unfold cnt
  split
  · omega
  · have := cpt_le v h 6 0
    omega
/-- the pattern u fits the path v -/
def fitP (u v : Int32) : Prop := cnt u 15 ≤ cnt v 14 ∧ ∀ n, n < cnt u 15 → ((jus u (nI (n * 4)) &&& 15) = 15 ∨ (jus u (nI (n * 4)) &&& 15) = (jus (jus v (nI ((cnt v 14 - cnt u 15) * 4))) (nI (n * 4)) &&& 15))
