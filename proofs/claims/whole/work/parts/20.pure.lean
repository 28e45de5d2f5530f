/-- the set of the numbers k below n with q k, as bits -/
noncomputable def mk (q : Nat → Prop) : Nat → Int32
  | 0 => 0
  | n + 1 => @ite Int32 (q n) (Classical.propDecidable _) (mk q n ||| (1 <<< (nI n &&& 31))) (mk q n)
theorem mk_yes {q : Nat → Prop} {n : Nat} (h : q n) : mk q n ||| (1 <<< (nI n &&& 31)) = mk q (n + 1) := (@if_pos (q n) (Classical.propDecidable _) h Int32 _ _).symm
theorem mk_no {q : Nat → Prop} {n : Nat} (h : ¬ q n) : mk q (n + 1) = mk q n := @if_neg (q n) (Classical.propDecidable _) h Int32 _ _
/-- Integer.rotateRight, as its code has it -/
def jrot (a b : Int32) : Int32 := (a.toUInt32 >>> (b.toUInt32 &&& Int32.toUInt32 31)).toInt32 ||| (a <<< ((-b) &&& 31))
def jus (a b : Int32) : Int32 := (a.toUInt32 >>> (b.toUInt32 &&& Int32.toUInt32 31)).toInt32
def jbc1 (a : Int32) : Int32 := a - (jus a 1 &&& 1431655765)
def jbc2 (a : Int32) : Int32 := (a &&& 858993459) + (jus a 2 &&& 858993459)
def jbc3 (a : Int32) : Int32 := (a + jus a 4) &&& 252645135
def jbc4 (a : Int32) : Int32 := a + jus a 8
def jbc5 (a : Int32) : Int32 := a + jus a 16
/-- Integer.bitCount, as its code has it -/
def jbc (a : Int32) : Int32 := jbc5 (jbc4 (jbc3 (jbc2 (jbc1 a)))) &&& 63
theorem upd_self (f : Nat → Int32) (k : Nat) (x : Int32) : upd f k x k = x := by simp [upd]
theorem upd_ne {f : Nat → Int32} {k j : Nat} {x : Int32} (h : j ≠ k) : upd f k x j = f j := by simp [upd, h]
