def turn (x b : Int32) : Int32 := jus x b ||| (x <<< ((32 - b) &&& 31))
theorem turn_jrot {b : Int32} (h : ((32 - b) &&& 31 : Int32) = (-b) &&& 31) (x : Int32) : turn x b = jrot x b := by
  unfold turn jrot jus
  rw [h]
theorem m1_bit : (-1 : Int32).toBitVec = BitVec.allOnes 32 := by decide
theorem ch_eq (e f g : Int32) : g ^^^ (e &&& (f ^^^ g)) = jch e f g := by
  unfold jch
  apply Int32.toBitVec_inj.mp
  simp only [Int32.toBitVec_xor, Int32.toBitVec_and, m1_bit]
  apply BitVec.eq_of_getLsbD_eq
  intro i hi
  simp only [BitVec.getLsbD_xor, BitVec.getLsbD_and, BitVec.getLsbD_allOnes, hi, decide_true]
  generalize e.toBitVec.getLsbD i = a
  generalize f.toBitVec.getLsbD i = b
  generalize g.toBitVec.getLsbD i = c
  cases a <;> cases b <;> cases c <;> rfl
theorem maj_eq (x y z : Int32) : (x &&& (y ||| z)) ||| (y &&& z) = jmaj x y z := by
  unfold jmaj
  apply Int32.toBitVec_inj.mp
  simp only [Int32.toBitVec_xor, Int32.toBitVec_and, Int32.toBitVec_or]
  apply BitVec.eq_of_getLsbD_eq
  intro i hi
  simp only [BitVec.getLsbD_xor, BitVec.getLsbD_and, BitVec.getLsbD_or]
  generalize x.toBitVec.getLsbD i = a
  generalize y.toBitVec.getLsbD i = b
  generalize z.toBitVec.getLsbD i = c
  cases a <;> cases b <;> cases c <;> rfl
def ub (v : Int64) (k : Int32) : Int32 := ((v >>> (k.toInt64 &&& 63)) &&& 255).toInt32
def uB1 (v : Int64) : List Int32 := [ub v 0]
def uB4 (v : Int64) : List Int32 := [ub v 24, ub v 16, ub v 8, ub v 0]
def uB8 (v : Int64) : List Int32 := [ub v 56, ub v 48, ub v 40, ub v 32, ub v 24, ub v 16, ub v 8, ub v 0]
def ltr (w : Nat → Int32) (t : Nat) : Int32 := ((w (t % 16) + w ((t + 9) % 16)) + ((turn (w ((t + 1) % 16)) 7 ^^^ turn (w ((t + 1) % 16)) 18) ^^^ jus (w ((t + 1) % 16)) 3)) + ((turn (w ((t + 14) % 16)) 17 ^^^ turn (w ((t + 14) % 16)) 19) ^^^ jus (w ((t + 14) % 16)) 10)
def mone (S W : Nat → Int32) (K : Int32) (t : Nat) : Int32 := (((S ((64 - t + 7) % 8) + ((turn (S ((64 - t + 4) % 8)) 6 ^^^ turn (S ((64 - t + 4) % 8)) 11) ^^^ turn (S ((64 - t + 4) % 8)) 25)) + (S ((64 - t + 6) % 8) ^^^ (S ((64 - t + 4) % 8) &&& (S ((64 - t + 5) % 8) ^^^ S ((64 - t + 6) % 8))))) + K) + W (t % 16)
def mtwo (S : Nat → Int32) (t : Nat) : Int32 := ((turn (S ((64 - t) % 8)) 2 ^^^ turn (S ((64 - t) % 8)) 13) ^^^ turn (S ((64 - t) % 8)) 22) + ((S ((64 - t) % 8) &&& (S ((64 - t + 1) % 8) ||| S ((64 - t + 2) % 8))) ||| (S ((64 - t + 1) % 8) &&& S ((64 - t + 2) % 8)))
/-- a word out of four whole bytes -/
def mwd (f : Nat → Int32) (b t : Nat) : Int32 := (((f (b + (4 * t)) <<< ((24 : Int32) &&& 31)) ||| (f (b + (4 * t) + 1) <<< ((16 : Int32) &&& 31))) ||| (f (b + (4 * t) + 2) <<< ((8 : Int32) &&& 31))) ||| f (b + (4 * t) + 3)
theorem ltr_sch {w W : Nat → Int32} {t : Nat} (h : ∀ k, t ≤ k → k < t + 16 → W (k % 16) = sch w k) : ltr W t = sch w (t + 16) := by
  unfold ltr
  rw [h t (by omega) (by omega), h (t + 9) (by omega) (by omega), h (t + 1) (by omega) (by omega), h (t + 14) (by omega) (by omega), sch_hi (t := t + 16) (by omega), show t + 16 - 16 = t by omega, show t + 16 - 15 = t + 1 by omega, show t + 16 - 7 = t + 9 by omega, show t + 16 - 2 = t + 14 by omega]
  rw [turn_jrot (by decide), turn_jrot (by decide), turn_jrot (by decide), turn_jrot (by decide)]
  unfold sg0 sg1
  generalize sch w t = x0
  generalize sch w (t + 9) = x9
  generalize sch w (t + 1) = x1
  rw [Int32.add_assoc x0 x9, Int32.add_comm x9, ← Int32.add_assoc x0]
def stI (S W s w : Nat → Int32) (t : Nat) : Prop := (∀ j, j < 8 → S ((64 - t + j) % 8) = rst s (sch w) t j) ∧ ∀ k, t ≤ k → k < t + 16 → W (k % 16) = sch w k
theorem stI_step {S W s w S' W' : Nat → Int32} {K : Int32} {t : Nat} (ht : t < 64) (h : stI S W s w t) (hK : K = sRC t) (hS : S' = upd (upd S ((64 - t + 3) % 8) (S ((64 - t + 3) % 8) + mone S W K t)) ((64 - t + 7) % 8) (mone S W K t + mtwo S t)) (hW : W' = upd W (t % 16) (ltr W t)) : stI S' W' s w (t + 1) := by
  obtain ⟨h1, h2⟩ := h
  have e0 : S ((64 - t) % 8) = rst s (sch w) t 0 := h1 0 (by omega)
  have e1 := h1 1 (by omega)
  have e2 := h1 2 (by omega)
  have e3 := h1 3 (by omega)
  have e4 := h1 4 (by omega)
  have e5 := h1 5 (by omega)
  have e6 := h1 6 (by omega)
  have e7 := h1 7 (by omega)
  have eo : mone S W K t = one (rst s (sch w) t) (sRC t) (sch w t) := by
    unfold mone one Sg1
    rw [e4, e5, e6, e7, h2 t (by omega) (by omega), hK, ch_eq, turn_jrot (by decide), turn_jrot (by decide), turn_jrot (by decide)]
  have et : mtwo S t = Sg0 (rst s (sch w) t 0) + jmaj (rst s (sch w) t 0) (rst s (sch w) t 1) (rst s (sch w) t 2) := by
    unfold mtwo Sg0
    rw [e0, e1, e2, maj_eq, turn_jrot (by decide), turn_jrot (by decide), turn_jrot (by decide)]
  refine ⟨fun j hj => ?_, fun k hk1 hk2 => ?_⟩
  · rw [hS]
    simp only [upd]
    rcases (show j = 0 ∨ j = 1 ∨ j = 2 ∨ j = 3 ∨ j = 4 ∨ j = 5 ∨ j = 6 ∨ j = 7 by omega) with rfl | rfl | rfl | rfl | rfl | rfl | rfl | rfl
    · rw [if_pos (by omega), eo, et, ← Int32.add_assoc]; rfl
    · rw [if_neg (by omega), if_neg (by omega), show (64 - (t + 1) + 1) % 8 = (64 - t) % 8 by omega, e0]; rfl
    · rw [if_neg (by omega), if_neg (by omega), show (64 - (t + 1) + 2) % 8 = (64 - t + 1) % 8 by omega, e1]; rfl
    · rw [if_neg (by omega), if_neg (by omega), show (64 - (t + 1) + 3) % 8 = (64 - t + 2) % 8 by omega, e2]; rfl
    · rw [if_neg (by omega), if_pos (by omega), eo, e3]; rfl
    · rw [if_neg (by omega), if_neg (by omega), show (64 - (t + 1) + 5) % 8 = (64 - t + 4) % 8 by omega, e4]; rfl
    · rw [if_neg (by omega), if_neg (by omega), show (64 - (t + 1) + 6) % 8 = (64 - t + 5) % 8 by omega, e5]; rfl
    · rw [if_neg (by omega), if_neg (by omega), show (64 - (t + 1) + 7) % 8 = (64 - t + 6) % 8 by omega, e6]; rfl
  · rw [hW]
    by_cases hk : k = t + 16
    · subst hk
      rw [show (t + 16) % 16 = t % 16 by omega, upd_self]
      exact ltr_sch h2
    · rw [upd_ne (by omega)]
      exact h2 k (by omega) (by omega)
theorem stI_0 {S W s w : Nat → Int32} (hs : ∀ j, j < 8 → S j = s j) (hw : ∀ k, k < 16 → W k = w k) : stI S W s w 0 := by
  refine ⟨fun j hj => ?_, fun k _ hk => ?_⟩
  · rw [show (64 - 0 + j) % 8 = j by omega]
    exact hs j hj
  · rw [show k % 16 = k by omega, hw k (by omega), sch_lo (by omega)]
theorem stI_64 {S W s w : Nat → Int32} (h : stI S W s w 64) : ∀ j, j < 8 → S j = rst s (sch w) 64 j := by
  intro j hj
  have := h.1 j hj
  rwa [show (64 - 64 + j) % 8 = j by omega] at this
