noncomputable def pick (q : Prop) (a b : Nat) : Nat := @ite Nat q (Classical.propDecidable q) a b
theorem pick_t {q : Prop} {a b : Nat} (h : q) : pick q a b = a := @if_pos q (Classical.propDecidable q) h Nat a b
theorem pick_f {q : Prop} {a b : Nat} (h : ¬ q) : pick q a b = b := @if_neg q (Classical.propDecidable q) h Nat a b
noncomputable def livM (n : Nat) (fu : Nat → Int64) (t : Int64) : Int32 := mk (fun k => ¬ fu k ≤ t) n
def folP (ci : Nat → Option Nat) (pr : Nat → RowP) (i : Nat) : Prop := ∀ k, ci ((pr i).1 17) = some k → ((pr i).1 17 = 0 → (pr i).2.1 1 = (pr k).2.1 1 + 1) ∧ (¬ (pr i).1 17 = 0 → ¬ (pr i).2.1 1 < (pr k).2.1 1)
def tolP (ci : Nat → Option Nat) (pr : Nat → RowP) (t : Int64) (i : Nat) : Prop := (pr i).1 17 = 0 ∨ (pr i).1 17 = 1 ∨ ∃ k, ci (if (pr i).1 17 = 2 then 1 else 2) = some k ∧ ¬ (pr k).2.2.1 ≤ t ∧ ∃ j, isPl ((pr k).2.2.2 3) ((pr k).1 15) (nI ((pr i).1 17)) j ∧ tv ((pr k).2.2.2 4) ((pr k).1 15) j = (pr i).2.1 1
def kepP (ci : Nat → Option Nat) (pr : Nat → RowP) (i : Nat) : Prop := (pr i).1 17 = 2 → ∀ k, ci 2 = some k → ∀ m, m < (pr k).1 15 → kOf ((pr i).2.2.2 3) ((pr i).2.2.2 4) ((pr i).1 15) ((pr k).2.2.2 3 m) ((pr k).2.2.2 4 m)
def alvP (ci : Nat → Option Nat) (pr : Nat → RowP) (t : Int64) : Prop := ∃ k, ci 0 = some k ∧ ¬ (pr k).2.2.1 ≤ t
def qumP (ci : Nat → Option Nat) (pr : Nat → RowP) (rev live : Int32) (i : Nat) : Prop := ∀ k, ci 0 = some k → qM rev live (pr i) (pr k)
/-- the first rule that a row breaks, or 0 -/
noncomputable def fbr (ci : Nat → Option Nat) (pr : Nat → RowP) (rev live : Int32) (t : Int64) (i : Nat) : Nat :=
  pick (¬ (pr i).1 17 = 0 ∧ ¬ alvP ci pr t) 2 (pick (¬ qumP ci pr rev live i) 3 (pick ((pr i).1 17 = 0 ∧ ¬ qM rev live (pr i) (pr i)) 4 (pick (¬ folP ci pr i) 5 (pick ((pr i).2.2.1 ≤ t) 6 (pick (¬ tolP ci pr t i) 7 (pick (¬ kepP ci pr i) 8 0))))))
