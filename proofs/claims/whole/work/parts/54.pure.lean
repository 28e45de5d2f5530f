def m1 (f : Nat → Int32) (b : Nat) : Nat → List Int32
  | 0 => []
  | k + 1 => m1 f b k ++ uB1 (f (b + k)).toInt64
def m4 (f : Nat → Int32) (b : Nat) : Nat → List Int32
  | 0 => []
  | k + 1 => m4 f b k ++ uB4 (f (b + k)).toInt64
def m5 (fb fi : Nat → Int32) (b : Nat) : Nat → List Int32
  | 0 => []
  | k + 1 => m5 fb fi b k ++ (uB1 (fb (b + k)).toInt64 ++ uB4 (fi (b + k)).toInt64)
def m6 (fp ft fe : Nat → Int32) (b : Nat) : Nat → List Int32
  | 0 => []
  | k + 1 => m6 fp ft fe b k ++ (uB4 (fp (b + k)).toInt64 ++ (uB1 (ft (b + k)).toInt64 ++ uB1 (if fe (b + k) = 0 then 0 else 1)))
theorem m1_len (f : Nat → Int32) (b k : Nat) : (m1 f b k).length = k := by
  induction k with
  | zero => rfl
  | succ k ih => simp only [m1, List.length_append, ih, uB1, List.length_cons, List.length_nil]
theorem m4_len (f : Nat → Int32) (b k : Nat) : (m4 f b k).length = 4 * k := by
  induction k with
  | zero => rfl
  | succ k ih => simp only [m4, List.length_append, ih, uB4, List.length_cons, List.length_nil]; omega
theorem m5_len (fb fi : Nat → Int32) (b k : Nat) : (m5 fb fi b k).length = 5 * k := by
  induction k with
  | zero => rfl
  | succ k ih => simp only [m5, List.length_append, ih, uB1, uB4, List.length_cons, List.length_nil]; omega
theorem m6_len (fp ft fe : Nat → Int32) (b k : Nat) : (m6 fp ft fe b k).length = 6 * k := by
  induction k with
  | zero => rfl
  | succ k ih => simp only [m6, List.length_append, ih, uB1, uB4, List.length_cons, List.length_nil]; omega
def mH (role : Nat) (ver : Int32) (unt : Int64) (oc : Nat) (fo : Nat → Int32) (r : Nat) : List Int32 := (((uB1 (nI role).toInt64 ++ uB4 ver.toInt64) ++ uB8 unt) ++ uB1 (nI oc).toInt64) ++ m1 fo (16 * r) oc
theorem mH_len (role : Nat) (ver : Int32) (unt : Int64) (oc : Nat) (fo : Nat → Int32) (r : Nat) : (mH role ver unt oc fo r).length = 14 + oc := by
  simp only [mH, List.length_append, m1_len, uB1, uB4, uB8, List.length_cons, List.length_nil]
/-- the bytes of a row, as the reference puts them -/
def mrowB (role : Nat) (ver : Int32) (unt : Int64) (oc : Nat) (fo fn fm : Nat → Int32) (tn : Nat) (fr fv : Nat → Int32) (dn : Nat) (fp ft fe : Nat → Int32) (pn : Nat) (fh : Nat → Int32) (r : Nat) : List Int32 :=
  mH role ver unt oc fo r ++ (if role = 0 then m5 fn fm (10 * r) 10 else if role < 3 then uB1 (nI tn).toInt64 ++ m5 fr fv (7 * r) tn else (uB1 (nI dn).toInt64 ++ m6 fp ft fe (6 * r) dn) ++ (uB1 (nI pn).toInt64 ++ m4 fh (6 * r) pn))
theorem mrowB_le {role oc tn dn pn : Nat} (ver : Int32) (unt : Int64) (fo fn fm fr fv fp ft fe fh : Nat → Int32) (r : Nat) (h1 : oc ≤ 16) (h2 : tn ≤ 7) (h3 : dn ≤ 6) (h4 : pn ≤ 6) : (mrowB role ver unt oc fo fn fm tn fr fv dn fp ft fe pn fh r).length ≤ 92 := by
  unfold mrowB
  rw [List.length_append, mH_len]
  split
  · rw [m5_len]; omega
  · split
    · rw [List.length_append, m5_len]; simp only [uB1, List.length_cons, List.length_nil]; omega
    · rw [List.length_append, List.length_append, List.length_append, m6_len, m4_len]; simp only [uB1, List.length_cons, List.length_nil]; omega
