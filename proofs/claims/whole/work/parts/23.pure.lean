/-- j is the first place below n at which f holds x, or n -/
def isPl (f : Nat → Int32) (n : Nat) (x : Int32) (j : Nat) : Prop := j ≤ n ∧ (∀ k, k < j → ¬ f k = x) ∧ (j < n → f j = x)
theorem isPl_u {f : Nat → Int32} {n : Nat} {x : Int32} {j i : Nat} (h : isPl f n x j) (g : isPl f n x i) : j = i := by
  obtain ⟨h1, h2, h3⟩ := h
  obtain ⟨g1, g2, g3⟩ := g
  rcases Nat.lt_trichotomy j i with q | q | q
  · exact absurd (h3 (by omega)) (g2 j q)
  · exact q
  · exact absurd (g3 (by omega)) (h2 i q)
def tv (fv : Nat → Int32) (n j : Nat) : Int32 := if j < n then fv j else 0
/-- the version that is told of x is not below v -/
def kOf (fr fv : Nat → Int32) (n : Nat) (x v : Int32) : Prop := ∃ j, isPl fr n x j ∧ v ≤ tv fv n j
def jmax (a b : Int32) : Int32 := if a < b then b else a
theorem jmax_nI {a b : Nat} (ha : a < 2 ^ 31) (hb : b < 2 ^ 31) : jmax (nI a) (nI b) = nI (max a b) := by
  unfold jmax
  by_cases h : a < b
  · rw [if_pos ((nI_ltI ha hb).mpr h), Nat.max_eq_right (by omega)]
  · rw [if_neg (fun q => h ((nI_ltI ha hb).mp q)), Nat.max_eq_left (by omega)]
