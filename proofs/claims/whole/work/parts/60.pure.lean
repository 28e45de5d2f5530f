/-- the bytes of row q, as the reference puts them, out of its arrays -/
def mB (am : Nat → Nat → Int32) (al : Nat → Nat → Int64) (pq : Nat → Nat → Nat) (q : Nat) : List Int32 := mrowB (pq q 17) (am 11 q) (al 14 q) (pq q 12) (am 13) (am 8) (am 9) (pq q 15) (am 16) (am 17) (pq q 16) (am 19) (am 20) (am 21) (pq q 13) (am 23) q
/-- row q has a right signature of key k -/
def mHp (am : Nat → Nat → Int32) (al : Nat → Nat → Int64) (pq : Nat → Nat → Nat) (q k : Nat) : Prop := hpk (pq q 14) (am 25) (al 26) q (fun k => uB8 (al 3 k) ++ mB am al pq q) k
def mQm (kn : Nat) (am : Nat → Nat → Int32) (al : Nat → Nat → Int64) (pq : Nat → Nat → Nat) (t : Int64) (q f ro : Nat) : Prop := ¬ btsI (msk (fun k => al 4 k ≤ t ∨ ¬ am 5 k = 0) (mk (mHp am al pq q) kn &&& am 9 (10 * ro + f)) kn) 20 < am 8 (10 * ro + f)
def mOk (rn : Nat) (am : Nat → Nat → Int32) (pq : Nat → Nat → Nat) : Prop := ∀ q, q < rn → am 10 q = nI (pq q 17) ∧ am 12 q = nI (pq q 12) ∧ am 15 q = nI (pq q 15) ∧ am 18 q = nI (pq q 16) ∧ am 22 q = nI (pq q 13) ∧ am 24 q = nI (pq q 14) ∧ pq q 17 < 10 ∧ pq q 12 ≤ 16 ∧ pq q 15 ≤ 7 ∧ pq q 16 ≤ 6 ∧ pq q 13 ≤ 6 ∧ pq q 14 ≤ 12
/-- a current row's number, or -1 -/
def nw (ci : Nat → Option Nat) (j : Nat) : Int32 := match ci j with | none => -1 | some i => nI i
theorem nw_n {ci : Nat → Option Nat} {j : Nat} (h : ci j = none) : nw ci j = -1 := by rw [nw, h]
theorem nw_s {ci : Nat → Option Nat} {j i : Nat} (h : ci j = some i) : nw ci j = nI i := by rw [nw, h]
theorem lastAt_lt {f : Nat → Int32} {b : Nat} {x : Int32} : ∀ {n j : Nat}, lastAt f b x n = some j → j < n := by
  intro n
  induction n with
  | zero => intro j h; cases h
  | succ n ih =>
    intro j h
    rw [lastAt] at h
    by_cases hx : f (b + n) = x
    · rw [if_pos hx] at h; cases h; omega
    · rw [if_neg hx] at h; have := ih h; omega
def mTol (ci : Nat → Option Nat) (am : Nat → Nat → Int32) (al : Nat → Nat → Int64) (pq : Nat → Nat → Nat) (t : Int64) (w q : Nat) : Prop := ∃ k, ci w = some k ∧ ¬ al 14 k ≤ t ∧ ∃ j, lastAt (am 16) (7 * k) (nI (pq q 17)) (pq k 15) = some j ∧ am 17 (7 * k + j) = am 11 q
def mGo1 (am : Nat → Nat → Int32) (pq : Nat → Nat → Nat) (k q i : Nat) : Prop := ∃ j, lastAt (am 16) (7 * q) (am 16 (7 * k + i)) (pq q 15) = some j ∧ ¬ am 17 (7 * q + j) < am 17 (7 * k + i)
def mGo (am : Nat → Nat → Int32) (pq : Nat → Nat → Nat) (k q n : Nat) : Prop := ∀ i, i < n → mGo1 am pq k q i
theorem mGo_t {am : Nat → Nat → Int32} {pq : Nat → Nat → Nat} {k q n : Nat} (h : mGo am pq k q n) (h1 : mGo1 am pq k q n) : mGo am pq k q (n + 1) := lt_s h h1
theorem mGo_f {am : Nat → Nat → Int32} {pq : Nat → Nat → Nat} {k q n : Nat} (h : ¬ mGo am pq k q n) : ¬ mGo am pq k q (n + 1) := fun g => h (fun i hi => g i (by omega))
theorem mGo_g {am : Nat → Nat → Int32} {pq : Nat → Nat → Nat} {k q n : Nat} (h : ¬ mGo1 am pq k q n) : ¬ mGo am pq k q (n + 1) := fun g => h (g n (by omega))
def mWas (ci : Nat → Option Nat) (am : Nat → Nat → Int32) (j : Nat) : Int32 := match ci j with | none => 0 | some k => am 11 k
theorem mWas_n {ci : Nat → Option Nat} {am : Nat → Nat → Int32} {j : Nat} (h : ci j = none) : mWas ci am j = 0 := by rw [mWas, h]
theorem mWas_s {ci : Nat → Option Nat} {am : Nat → Nat → Int32} {j i : Nat} (h : ci j = some i) : mWas ci am j = am 11 i := by rw [mWas, h]
def mAlv (ci : Nat → Option Nat) (al : Nat → Nat → Int64) (t : Int64) : Prop := ∃ k, ci 0 = some k ∧ ¬ al 14 k ≤ t
def mFol (ci : Nat → Option Nat) (am : Nat → Nat → Int32) (pq : Nat → Nat → Nat) (q : Nat) : Prop := (pq q 17 = 0 → ∀ k, ci 0 = some k → am 11 q = mWas ci am (pq q 17) + 1) ∧ (¬ pq q 17 = 0 → mWas ci am (pq q 17) ≤ am 11 q)
def mT7 (ci : Nat → Option Nat) (am : Nat → Nat → Int32) (al : Nat → Nat → Int64) (pq : Nat → Nat → Nat) (t : Int64) (q : Nat) : Prop := (pq q 17 = 2 → mTol ci am al pq t 1 q) ∧ (¬ pq q 17 < 3 → mTol ci am al pq t 2 q)
def mK8 (ci : Nat → Option Nat) (am : Nat → Nat → Int32) (pq : Nat → Nat → Nat) (q : Nat) : Prop := pq q 17 = 2 → ∀ k, ci 2 = some k → mGo am pq k q (pq k 15)
/-- the first rule that row q breaks, as the reference has it, or 0 -/
noncomputable def mrl (kn : Nat) (ci : Nat → Option Nat) (am : Nat → Nat → Int32) (al : Nat → Nat → Int64) (pq : Nat → Nat → Nat) (t : Int64) (q : Nat) : Nat :=
  pick (¬ pq q 17 = 0 ∧ ¬ mAlv ci al t) 2 (pick (¬ ∀ k, ci 0 = some k → mQm kn am al pq t q (pq q 17) k) 3 (pick (pq q 17 = 0 ∧ ¬ mQm kn am al pq t q 0 q) 4 (pick (¬ mFol ci am pq q) 5 (pick (al 14 q ≤ t) 6 (pick (¬ mT7 ci am al pq t q) 7 (pick (¬ mK8 ci am pq q) 8 0))))))
theorem mrl_le (kn : Nat) (ci : Nat → Option Nat) (am : Nat → Nat → Int32) (al : Nat → Nat → Int64) (pq : Nat → Nat → Nat) (t : Int64) (q : Nat) : mrl kn ci am al pq t q ≤ 8 := by
  have hp : ∀ (z : Prop) (a b : Nat), a ≤ 8 → b ≤ 8 → pick z a b ≤ 8 := fun z a b ha hb => by
    by_cases h : z
    · rw [pick_t h]; exact ha
    · rw [pick_f h]; exact hb
  unfold mrl
  exact hp _ _ _ (by omega) (hp _ _ _ (by omega) (hp _ _ _ (by omega) (hp _ _ _ (by omega) (hp _ _ _ (by omega) (hp _ _ _ (by omega) (hp _ _ _ (by omega) (by omega)))))))
