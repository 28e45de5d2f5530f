def by8 (z : Int32) : Int32 := z.toInt8.toInt32
/-- the bytes put behind one another from n on -/
def ap : (Nat → Int32) → Nat → List Int32 → (Nat → Int32)
  | f, _, [] => f
  | f, n, b :: bs => ap (upd f n b) (n + 1) bs
theorem ap_app (f : Nat → Int32) (n : Nat) (a b : List Int32) : ap f n (a ++ b) = ap (ap f n a) (n + a.length) b := by
  induction a generalizing f n with
  | nil => simp [ap]
  | cons x xs ih =>
    simp only [List.cons_append, ap, List.length_cons]
    rw [ih]
    congr 1
    omega
theorem ap_lo (f : Nat → Int32) (n : Nat) (a : List Int32) {j : Nat} (h : j < n) : ap f n a j = f j := by
  induction a generalizing f n with
  | nil => rfl
  | cons x xs ih =>
    simp only [ap]
    rw [ih _ _ (by omega), upd_ne (by omega)]
theorem ap_in (f : Nat → Int32) (n : Nat) (a : List Int32) {i : Nat} (h : i < a.length) : ap f n a (n + i) = a.getD i 0 := by
  induction a generalizing f n i with
  | nil => simp at h
  | cons x xs ih =>
    simp only [ap]
    cases i with
    | zero => rw [ap_lo _ _ _ (by omega)]; simp [upd]
    | succ i =>
      rw [show n + (i + 1) = (n + 1) + i by omega, ih _ _ (by simpa using h)]
      simp
def bI (x : Int32) : List Int32 := [by8 (jus x 24), by8 (jus x 16), by8 (jus x 8), by8 (jus x 0)]
def hiL (x : Int64) : Int32 := ((x.toUInt64 >>> ((32 : Int32).toInt64.toUInt64 &&& Int64.toUInt64 63)).toInt64).toInt32
def bL (x : Int64) : List Int32 := bI (hiL x) ++ bI x.toInt32
/-- a message of n bytes, closed to e bytes -/
def padc (f : Nat → Int32) (n e : Nat) (j : Nat) : Int32 := if j < n then f j else if j = n then -128 else if j = e - 2 then by8 (jus (nI (n * 8)) 8) else if j = e - 1 then by8 (nI (n * 8)) else 0
/-- a word out of four bytes -/
def wd (f : Nat → Int32) (b t : Nat) : Int32 := ((((f (b + (4 * t)) &&& 255) <<< ((24 : Int32) &&& 31)) ||| ((f (b + (4 * t) + 1) &&& 255) <<< ((16 : Int32) &&& 31))) ||| ((f (b + (4 * t) + 2) &&& 255) <<< ((8 : Int32) &&& 31))) ||| (f (b + (4 * t) + 3) &&& 255)
def sg0 (x : Int32) : Int32 := ((jrot x 7) ^^^ (jrot x 18)) ^^^ jus x 3
def sg1 (x : Int32) : Int32 := ((jrot x 17) ^^^ (jrot x 19)) ^^^ jus x 10
def sch (w : Nat → Int32) (t : Nat) : Int32 := if t < 16 then w t else ((sch w (t - 16) + sg0 (sch w (t - 15))) + sch w (t - 7)) + sg1 (sch w (t - 2))
termination_by t
decreasing_by all_goals omega
theorem sch_lo {w : Nat → Int32} {t : Nat} (h : t < 16) : sch w t = w t := by rw [sch, if_pos h]
theorem sch_hi {w : Nat → Int32} {t : Nat} (h : ¬ t < 16) : sch w t = ((sch w (t - 16) + sg0 (sch w (t - 15))) + sch w (t - 7)) + sg1 (sch w (t - 2)) := by rw [sch, if_neg h]
def Sg0 (x : Int32) : Int32 := ((jrot x 2) ^^^ (jrot x 13)) ^^^ jrot x 22
def Sg1 (x : Int32) : Int32 := ((jrot x 6) ^^^ (jrot x 11)) ^^^ jrot x 25
def jch (e f g : Int32) : Int32 := (e &&& f) ^^^ ((e ^^^ (-1)) &&& g)
def jmaj (a b c : Int32) : Int32 := ((a &&& b) ^^^ (a &&& c)) ^^^ (b &&& c)
def one (r : Nat → Int32) (k w : Int32) : Int32 := (((r 7 + Sg1 (r 4)) + jch (r 4) (r 5) (r 6)) + k) + w
def rstep (r : Nat → Int32) (k w : Int32) : Nat → Int32
  | 0 => (one r k w + Sg0 (r 0)) + jmaj (r 0) (r 1) (r 2)
  | 1 => r 0
  | 2 => r 1
  | 3 => r 2
  | 4 => r 3 + one r k w
  | 5 => r 4
  | 6 => r 5
  | _ => r 6
def rst (s w : Nat → Int32) : Nat → (Nat → Int32)
  | 0 => s
  | t + 1 => rstep (rst s w t) (sRC t) (w t)
theorem rst_congr {s w w' : Nat → Int32} : ∀ {n : Nat}, (∀ t, t < n → w t = w' t) → rst s w n = rst s w' n := by
  intro n
  induction n with
  | zero => intro _; rfl
  | succ n ih =>
    intro h
    simp only [rst]
    rw [ih (fun t ht => h t (by omega)), h n (by omega)]
/-- a block: the state behind it -/
def blk (s w : Nat → Int32) (i : Nat) : Int32 := s i + rst s (sch w) 64 i
/-- the eight words of the digest of the first n bytes of f -/
def shaF (f : Nat → Int32) (n : Nat) : Nat → Int32 := if n + 9 ≤ 64 then blk sFS (wd (padc f n 64) 0) else blk (blk sFS (wd (padc f n 128) 0)) (wd (padc f n 128) 64)
def eight (g : Nat → Int32) : Int64 := ((g 0).toInt64 <<< ((32 : Int32).toInt64 &&& 63)) ||| ((g 1).toInt64 &&& 4294967295)
