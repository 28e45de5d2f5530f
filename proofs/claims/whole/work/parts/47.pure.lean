noncomputable def pk2 {α : Type} (q : Prop) (a b : α) : α := @ite α q (Classical.propDecidable q) a b
theorem pk2_t {α : Type} {q : Prop} {a b : α} (h : q) : pk2 q a b = a := @if_pos q (Classical.propDecidable q) h α a b
theorem pk2_f {α : Type} {q : Prop} {a b : α} (h : ¬ q) : pk2 q a b = b := @if_neg q (Classical.propDecidable q) h α a b
/-- what a delegation's role gives: nothing if it was searched -/
noncomputable def ansF (S : Nat → Int32 → Int32 × Int32) (to : Nat) (m : Int32) : Int32 × Int32 := pk2 (¬ (m &&& (1 <<< (nI to &&& 31))) = 0) (-1, m) (S to m)
/-- the delegations of a row from i on, l more of them: the answer (-1: none, -2: over) and the roles searched -/
noncomputable def folF (S : Nat → Int32 → Int32 × Int32) (r : RowP) (x : Int32) : Nat → Nat → Int32 → Int32 × Int32
  | 0, _, m => (-1, m)
  | l + 1, i, m => pk2 (fitP (r.2.2.2 5 i) x) (pk2 ((ansF S (r.2.2.2 6 i).toNatClampNeg m).1 = -1) (pk2 (r.2.2.2 7 i = 0) (folF S r x l (i + 1) (ansF S (r.2.2.2 6 i).toNatClampNeg m).2) (-2, (ansF S (r.2.2.2 6 i).toNatClampNeg m).2)) (ansF S (r.2.2.2 6 i).toNatClampNeg m)) (folF S r x l (i + 1) m)
/-- a role searched, at most d deep -/
noncomputable def srF (ci : Nat → Option Nat) (pr : Nat → RowP) (x : Int32) : Nat → Nat → Int32 → Int32 × Int32
  | 0, _, m => (-1, m)
  | d + 1, role, m => match ci role with
    | none => (-1, m)
    | some k => pk2 (∃ i, i < (pr k).1 13 ∧ (pr k).2.2.2 8 i = x) (nI role, m ||| (1 <<< (nI role &&& 31))) (folF (srF ci pr x d) (pr k) x ((pr k).1 16) 0 (m ||| (1 <<< (nI role &&& 31))))
theorem srF_none {ci : Nat → Option Nat} {pr : Nat → RowP} {x m : Int32} {role : Nat} (h : ci role = none) : ∀ d, srF ci pr x d role m = (-1, m) := by
  intro d
  cases d with
  | zero => rfl
  | succ d => rw [srF, h]
theorem srF_hit {ci : Nat → Option Nat} {pr : Nat → RowP} {x m : Int32} {role k : Nat} (d : Nat) (h : ci role = some k) (hp : ∃ i, i < (pr k).1 13 ∧ (pr k).2.2.2 8 i = x) : srF ci pr x (d + 1) role m = (nI role, m ||| (1 <<< (nI role &&& 31))) := by
  rw [srF, h]
  exact pk2_t hp
theorem srF_go {ci : Nat → Option Nat} {pr : Nat → RowP} {x m : Int32} {role k : Nat} (d : Nat) (h : ci role = some k) (hp : ¬ ∃ i, i < (pr k).1 13 ∧ (pr k).2.2.2 8 i = x) : srF ci pr x (d + 1) role m = folF (srF ci pr x d) (pr k) x ((pr k).1 16) 0 (m ||| (1 <<< (nI role &&& 31))) := by
  rw [srF, h]
  exact pk2_f hp
section FO
variable {S : Nat → Int32 → Int32 × Int32} {r : RowP} {x m : Int32} {n i to : Nat} {a : Int32 × Int32}
theorem fo_end (h : ¬ i < n) : folF S r x (n - i) i m = (-1, m) := by rw [show n - i = 0 by omega]; rfl
theorem fo_skip (h : i < n) (hf : ¬ fitP (r.2.2.2 5 i) x) : folF S r x (n - i) i m = folF S r x (n - (i + 1)) (i + 1) m := by
  rw [show n - i = (n - (i + 1)) + 1 by omega, folF, pk2_f hf]
theorem fo_hit (h : i < n) (hf : fitP (r.2.2.2 5 i) x) (ht : (r.2.2.2 6 i).toNatClampNeg = to) (ha : ansF S to m = a) (h1 : ¬ a.1 = -1) : folF S r x (n - i) i m = a := by
  subst ht
  subst ha
  rw [show n - i = (n - (i + 1)) + 1 by omega, folF, pk2_t hf, pk2_f h1]
theorem fo_over (h : i < n) (hf : fitP (r.2.2.2 5 i) x) (ht : (r.2.2.2 6 i).toNatClampNeg = to) (ha : ansF S to m = a) (h1 : a.1 = -1) (he : ¬ r.2.2.2 7 i = 0) : folF S r x (n - i) i m = (-2, a.2) := by
  subst ht
  subst ha
  rw [show n - i = (n - (i + 1)) + 1 by omega, folF, pk2_t hf, pk2_t h1, pk2_f he]
theorem fo_next (h : i < n) (hf : fitP (r.2.2.2 5 i) x) (ht : (r.2.2.2 6 i).toNatClampNeg = to) (ha : ansF S to m = a) (h1 : a.1 = -1) (he : r.2.2.2 7 i = 0) : folF S r x (n - i) i m = folF S r x (n - (i + 1)) (i + 1) a.2 := by
  subst ht
  subst ha
  rw [show n - i = (n - (i + 1)) + 1 by omega, folF, pk2_t hf, pk2_t h1, pk2_t he]
end FO
def fnd (a : Int32) : Int32 := if a = -2 then -1 else a
