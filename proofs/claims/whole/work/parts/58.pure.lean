/-- among the first n signatures on row q there is a right one of key k -/
def hpk (n : Nat) (sg : Nat → Int32) (sv : Nat → Int64) (q : Nat) (L : Nat → List Int32) (k : Nat) : Prop := ∃ i, i < n ∧ sg (12 * q + i) = nI k ∧ sv (12 * q + i) = mSig (L k)
theorem hpk_0 {sg : Nat → Int32} {sv : Nat → Int64} {q : Nat} {L : Nat → List Int32} {k : Nat} : ¬ hpk 0 sg sv q L k := fun ⟨_, h, _⟩ => absurd h (by omega)
theorem hpk_up {n : Nat} {sg : Nat → Int32} {sv : Nat → Int64} {q : Nat} {L : Nat → List Int32} {k : Nat} (h : hpk n sg sv q L k) : hpk (n + 1) sg sv q L k := let ⟨i, h1, h2⟩ := h; ⟨i, by omega, h2⟩
theorem hpk_new {n : Nat} {sg : Nat → Int32} {sv : Nat → Int64} {q : Nat} {L : Nat → List Int32} {k : Nat} (h1 : sg (12 * q + n) = nI k) (h2 : sv (12 * q + n) = mSig (L k)) : hpk (n + 1) sg sv q L k := ⟨n, by omega, h1, h2⟩
theorem hpk_no {n : Nat} {sg : Nat → Int32} {sv : Nat → Int64} {q : Nat} {L : Nat → List Int32} {k : Nat} (h : ¬ hpk n sg sv q L k) (h2 : ¬ (sg (12 * q + n) = nI k ∧ sv (12 * q + n) = mSig (L k))) : ¬ hpk (n + 1) sg sv q L k := by
  rintro ⟨i, g1, g2⟩
  by_cases hi : i = n
  · subst hi
    exact h2 g2
  · exact h ⟨i, by omega, g2⟩
/-- a set without the numbers k below n with q k -/
noncomputable def msk (q : Nat → Prop) (s : Int32) : Nat → Int32
  | 0 => s
  | k + 1 => pk2 (q k) (msk q s k &&& ((1 <<< (nI k &&& 31)) ^^^ (-1))) (msk q s k)
theorem msk_t {q : Nat → Prop} {s : Int32} {k : Nat} (h : q k) : msk q s k &&& ((1 <<< (nI k &&& 31)) ^^^ (-1)) = msk q s (k + 1) := (pk2_t h).symm
theorem msk_f {q : Nat → Prop} {s : Int32} {k : Nat} (h : ¬ q k) : msk q s k = msk q s (k + 1) := (pk2_f h).symm
