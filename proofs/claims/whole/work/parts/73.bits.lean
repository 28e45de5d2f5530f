/-! BRIDGES: bits -/
theorem bitB : ∀ k : Nat, k < 32 → ((1 : Int32) <<< (nI k &&& 31)).toBitVec = (1#32) <<< k := by decide
theorem gl_bit {k i : Nat} (hk : k < 32) (hi : i < 32) : ((1 : Int32) <<< (nI k &&& 31)).toBitVec.getLsbD i = decide (i = k) := by
  rw [bitB k hk, BitVec.getLsbD_shiftLeft]
  by_cases h : i < k
  · simp [h]; omega
  · simp only [hi, h, decide_true, decide_false, Bool.not_false, Bool.true_and, BitVec.getLsbD_one]
    by_cases e : i = k
    · simp [e]
    · simp [e]; omega
theorem i32_ext {a b : Int32} (h : ∀ i, i < 32 → a.toBitVec.getLsbD i = b.toBitVec.getLsbD i) : a = b := by
  apply Int32.toBitVec_inj.mp
  exact BitVec.eq_of_getLsbD_eq (fun i hi => h i hi)
theorem gl_mk {q : Nat → Prop} {n i : Nat} (hn : n ≤ 32) (hi : i < 32) : (mk q n).toBitVec.getLsbD i = @decide (i < n ∧ q i) (Classical.propDecidable _) := by
  induction n with
  | zero => simp [mk]
  | succ n ih =>
    by_cases h : q n
    · rw [← mk_yes h, Int32.toBitVec_or, BitVec.getLsbD_or, ih (by omega), gl_bit (by omega) hi]
      by_cases e : i = n
      · subst e; simp [h]
      · simp only [e, decide_false, Bool.or_false]
        congr 1
        exact propext ⟨fun g => ⟨by omega, g.2⟩, fun g => ⟨by omega, g.2⟩⟩
    · rw [mk_no h, ih (by omega)]
      congr 1
      refine propext ⟨fun g => ⟨by omega, g.2⟩, fun g => ⟨?_, g.2⟩⟩
      rcases Nat.lt_or_ge i n with z | z
      · exact z
      · have : i = n := by omega
        subst this; exact absurd g.2 h
theorem gl_not {a : Int32} {i : Nat} (hi : i < 32) : (a ^^^ (-1)).toBitVec.getLsbD i = !(a.toBitVec.getLsbD i) := by
  rw [Int32.toBitVec_xor, m1_bit, BitVec.getLsbD_xor, BitVec.getLsbD_allOnes]
  simp [hi]
theorem gl_msk {q : Nat → Prop} {s : Int32} {n i : Nat} (hn : n ≤ 32) (hi : i < 32) : (msk q s n).toBitVec.getLsbD i = (s.toBitVec.getLsbD i && !(@decide (i < n ∧ q i) (Classical.propDecidable _))) := by
  induction n with
  | zero => simp [msk]
  | succ n ih =>
    by_cases h : q n
    · rw [← msk_t h, Int32.toBitVec_and, BitVec.getLsbD_and, ih (by omega), gl_not hi, gl_bit (by omega) hi]
      by_cases e : i = n
      · subst e; simp [h]
      · simp only [e, decide_false, Bool.not_false, Bool.and_true]
        congr 3
        exact propext ⟨fun g => ⟨by omega, g.2⟩, fun g => ⟨by omega, g.2⟩⟩
    · rw [← msk_f h, ih (by omega)]
      congr 3
      refine propext ⟨fun g => ⟨by omega, g.2⟩, fun g => ⟨?_, g.2⟩⟩
      rcases Nat.lt_or_ge i n with z | z
      · exact z
      · have : i = n := by omega
        subst this; exact absurd g.2 h
theorem mk_congr {q r : Nat → Prop} {n : Nat} (h : ∀ k, k < n → (q k ↔ r k)) : mk q n = mk r n := by
  induction n with
  | zero => rfl
  | succ n ih =>
    have e := ih (fun k hk => h k (by omega))
    by_cases g : q n
    · rw [← mk_yes g, ← mk_yes ((h n (by omega)).mp g), e]
    · rw [mk_no g, mk_no (fun z => g ((h n (by omega)).mpr z)), e]
theorem mk_none {q : Nat → Prop} {n : Nat} (h : ∀ k, k < n → ¬ q k) : mk q n = 0 := by
  induction n with
  | zero => rfl
  | succ n ih => rw [mk_no (h n (by omega)), ih (fun k hk => h k (by omega))]
theorem mk_add {q r : Nat → Prop} {n k : Nat} (hn : n ≤ 32) (hk : k < n) (h : ∀ j, j < n → (r j ↔ (q j ∨ j = k))) : mk q n ||| (1 <<< (nI k &&& 31)) = mk r n := by
  refine i32_ext (fun i hi => ?_)
  rw [Int32.toBitVec_or, BitVec.getLsbD_or, gl_mk hn hi, gl_mk hn hi, gl_bit (by omega) hi]
  by_cases e : i < n
  · have hr := h i e
    by_cases g : q i
    · have h1 : r i := hr.mpr (Or.inl g)
      simp [e, g, h1]
    · by_cases z : i = k
      · have h1 : r i := hr.mpr (Or.inr z)
        simp [e, z.symm, g, h1]
      · have h1 : ¬ r i := fun y => (hr.mp y).elim g z
        simp [z, g, h1]
  · have z : ¬ i = k := by omega
    simp [e, z]
/-! popcount -/
def pcn (n : Nat) : Nat → Nat
  | 0 => 0
  | k + 1 => pcn n k + (n / 2 ^ k) % 2
theorem nI_and (a b : Nat) : nI a &&& nI b = nI (a &&& b) := by
  apply Int32.toBitVec_inj.mp
  show BitVec.ofNat 32 a &&& BitVec.ofNat 32 b = BitVec.ofNat 32 (a &&& b)
  exact (BitVec.ofNat_and).symm
theorem and_cat {a b c d : Nat} (ha : a < 2 ^ 8) (hc : c < 2 ^ 8) : (2 ^ 8 * b + a) &&& (2 ^ 8 * d + c) = 2 ^ 8 * (b &&& d) + (a &&& c) := by
  have hac : a &&& c < 2 ^ 8 := Nat.and_lt_two_pow _ hc
  apply Nat.eq_of_testBit_eq
  intro j
  rw [Nat.testBit_and, Nat.testBit_two_pow_mul_add _ ha, Nat.testBit_two_pow_mul_add _ hc, Nat.testBit_two_pow_mul_add _ hac]
  split <;> simp [Nat.testBit_and]
def q1 (a : Nat) : Nat := a - ((a / 2) &&& 85)
def q2 (a : Nat) : Nat := (a &&& 51) + ((a / 4) &&& 51)
def q3 (a : Nat) : Nat := (a + a / 16) &&& 15
def pc8 (a : Nat) : Nat := a % 2 + a / 2 % 2 + a / 4 % 2 + a / 8 % 2 + a / 16 % 2 + a / 32 % 2 + a / 64 % 2 + a / 128 % 2
theorem q_all : ∀ a : Nat, a < 256 → q3 (q2 (q1 a)) = pc8 a ∧ q2 (q1 a) ≤ 68 ∧ q1 a < 256 ∧ (a / 2 &&& 85) ≤ a ∧ pc8 a ≤ 8 ∧ q2 (q1 a) % 16 ≤ 4 ∧ ∀ t, t < 2 → (a / 2 + 128 * t) &&& 85 = a / 2 &&& 85 := by decide +kernel
theorem q_b : ∀ a : Nat, a < 256 → ∀ t, t < 4 → (a / 4 + 64 * t) &&& 51 = a / 4 &&& 51 := by decide +kernel
theorem q_c : ∀ a : Nat, a < 137 → ∀ t, t < 16 → (a + 16 * t) &&& 15 = a &&& 15 := by decide +kernel
theorem q_d : ∀ a : Nat, a < 69 → (a / 16 &&& 15) = a / 16 ∧ a % 16 < 16 := by decide +kernel
def w3 (c b a : Nat) : Nat := 2 ^ 8 * (2 ^ 8 * c + b) + a
theorem and3 {a b c m : Nat} (ha : a < 2 ^ 8) (hb : b < 2 ^ 8) (hc : c < 2 ^ 8) (hm : m < 2 ^ 8) : w3 c b a &&& (2 ^ 8 * (2 ^ 8 * (2 ^ 8 * m + m) + m) + m) = w3 (c &&& m) (b &&& m) (a &&& m) := by
  have e : c &&& (2 ^ 8 * m + m) = c &&& m := by
    have := and_cat (a := c) (b := 0) (c := m) (d := m) hc hm
    simpa using this
  unfold w3
  rw [and_cat ha hm, and_cat hb hm, e]
theorem w3_of (N : Nat) (h : N < 2 ^ 20) : ∃ a b c, N = w3 c b a ∧ a < 256 ∧ b < 256 ∧ c < 16 := ⟨N % 256, N / 256 % 256, N / 65536, by unfold w3; omega, by omega, by omega, by omega⟩
theorem jus1 {n : Nat} (h : n < 2 ^ 32) : jus (nI n) 1 = nI (n / 2 ^ 1) := pk_ushrN h 1 1 (by decide)
theorem jus2 {n : Nat} (h : n < 2 ^ 32) : jus (nI n) 2 = nI (n / 2 ^ 2) := pk_ushrN h 2 2 (by decide)
theorem jus4 {n : Nat} (h : n < 2 ^ 32) : jus (nI n) 4 = nI (n / 2 ^ 4) := pk_ushrN h 4 4 (by decide)
theorem jus8 {n : Nat} (h : n < 2 ^ 32) : jus (nI n) 8 = nI (n / 2 ^ 8) := pk_ushrN h 8 8 (by decide)
theorem jus16 {n : Nat} (h : n < 2 ^ 32) : jus (nI n) 16 = nI (n / 2 ^ 16) := pk_ushrN h 16 16 (by decide)
theorem jbc_w3 {a b c : Nat} (ha : a < 256) (hb : b < 256) (hc : c < 16) : jbc (nI (w3 c b a)) = nI (pc8 a + pc8 b + pc8 c) := by
  obtain ⟨a1, a2, a3, a4, a5, a7, a6⟩ := q_all a ha
  obtain ⟨b1, b2, b3, b4, b5, b7, b6⟩ := q_all b hb
  obtain ⟨c1, c2, c3, c4, c5, c7, c6⟩ := q_all c (by omega)
  have s1 : jbc1 (nI (w3 c b a)) = nI (w3 (q1 c) (q1 b) (q1 a)) := by
    unfold jbc1
    rw [jus1 (by unfold w3; omega), show (1431655765 : Int32) = nI (2 ^ 8 * (2 ^ 8 * (2 ^ 8 * 85 + 85) + 85) + 85) by decide, nI_and,
      show w3 c b a / 2 ^ 1 = w3 (c / 2) (b / 2 + 128 * (c % 2)) (a / 2 + 128 * (b % 2)) by unfold w3; omega,
      and3 (by omega) (by omega) (by omega) (by omega), a6 _ (by omega), b6 _ (by omega)]
    have g : w3 (c / 2 &&& 85) (b / 2 &&& 85) (a / 2 &&& 85) ≤ w3 c b a := by unfold w3; omega
    rw [pk_sub g]
    congr 1
    unfold w3 q1
    omega
  have s2 : jbc2 (nI (w3 (q1 c) (q1 b) (q1 a))) = nI (w3 (q2 (q1 c)) (q2 (q1 b)) (q2 (q1 a))) := by
    have c9 : q1 c < 16 := by unfold q1; omega
    generalize q1 a = x at a1 a2 a3 a7 ⊢
    generalize q1 b = y at b1 b2 b3 b7 ⊢
    generalize q1 c = z at c1 c2 c3 c7 c9 ⊢
    unfold jbc2
    rw [jus2 (by unfold w3; omega), show (858993459 : Int32) = nI (2 ^ 8 * (2 ^ 8 * (2 ^ 8 * 51 + 51) + 51) + 51) by decide, nI_and, nI_and,
      show w3 z y x / 2 ^ 2 = w3 (z / 4) (y / 4 + 64 * (z % 4)) (x / 4 + 64 * (y % 4)) by unfold w3; omega,
      and3 (by omega) (by omega) (by omega) (by omega), and3 (by omega) (by omega) (by omega) (by omega), q_b x a3 _ (by omega), q_b y b3 _ (by omega), nI_add]
    congr 1
    unfold w3 q2
    omega
  have s3 : jbc3 (nI (w3 (q2 (q1 c)) (q2 (q1 b)) (q2 (q1 a)))) = nI (w3 (pc8 c) (pc8 b) (pc8 a)) := by
    rw [← a1, ← b1, ← c1]
    generalize q2 (q1 a) = x at a2 a7 ⊢
    generalize q2 (q1 b) = y at b2 b7 ⊢
    generalize q2 (q1 c) = z at c2 c7 ⊢
    unfold jbc3
    rw [jus4 (by unfold w3; omega), nI_add, show (252645135 : Int32) = nI (2 ^ 8 * (2 ^ 8 * (2 ^ 8 * 15 + 15) + 15) + 15) by decide, nI_and,
      show w3 z y x + w3 z y x / 2 ^ 4 = w3 (z + z / 16) (y + y / 16 + 16 * (z % 16)) (x + x / 16 + 16 * (y % 16)) by unfold w3; omega,
      and3 (by omega) (by omega) (by omega) (by omega), q_c (x + x / 16) (by omega) _ (by omega), q_c (y + y / 16) (by omega) _ (by omega)]
    rfl
  unfold jbc
  rw [s1, s2, s3]
  unfold jbc4 jbc5
  clear s1 s2 s3 a1 a2 a3 a4 a6 a7 b1 b2 b3 b4 b6 b7 c1 c2 c3 c4 c6 c7
  generalize pc8 a = x at a5 ⊢
  generalize pc8 b = y at b5 ⊢
  generalize pc8 c = z at c5 ⊢
  rw [jus8 (by unfold w3; omega), nI_add, show w3 z y x + w3 z y x / 2 ^ 8 = w3 z (y + z) (x + y) by unfold w3; omega, jus16 (by unfold w3; omega), nI_add, show w3 z (y + z) (x + y) + w3 z (y + z) (x + y) / 2 ^ 16 = w3 z (y + z) (x + y + z) by unfold w3; omega, pk_andN (by unfold w3; omega) 6 (by decide)]
  congr 1
  unfold w3
  omega
theorem btb : ∀ k : Nat, k < 32 → ((nI k &&& 31).toBitVec.smod 32).toNat = k := by decide
theorem bts_s {N : Nat} (h : N < 2 ^ 31) {k : Nat} (hk : k < 32) {m : Nat} (e : btsI (nI N) k = nI m) : btsI (nI N) (k + 1) = nI (m + N / 2 ^ k % 2 ^ 1) := by
  rw [btsI, e, pk_shrN h _ k (btb k hk), pk_andN (Nat.lt_of_le_of_lt (Nat.div_le_self _ _) (by omega)) 1 (by decide), nI_add]
theorem md8 (M j : Nat) (hj : j < 8) : M / 2 ^ j % 2 = M % 2 ^ 8 / 2 ^ j % 2 := by
  have h : (M % 2 ^ 8).testBit j = M.testBit j := by rw [Nat.testBit_mod_two_pow]; simp [hj]
  rw [Nat.testBit_eq_decide_div_mod_eq, Nat.testBit_eq_decide_div_mod_eq] at h
  have h2 := decide_eq_decide.mp h
  omega
theorem bts8 {N k m a : Nat} (h : N < 2 ^ 31) (hk : k + 8 ≤ 32) (ha : a = N / 2 ^ k % 2 ^ 8) (e : btsI (nI N) k = nI m) : btsI (nI N) (k + 8) = nI (m + pc8 a) := by
  have hd : ∀ j, j < 8 → N / 2 ^ (k + j) % 2 ^ 1 = a / 2 ^ j % 2 := fun j hj => by
    rw [ha, Nat.pow_add, ← Nat.div_div_eq_div_mul]
    exact md8 _ j hj
  have st : ∀ j, j < 8 → ∀ x, btsI (nI N) (k + j) = nI x → btsI (nI N) (k + j + 1) = nI (x + a / 2 ^ j % 2) := fun j hj x hx => by
    rw [bts_s h (by omega) hx, hd j hj]
  have e1 := st 0 (by omega) _ e
  have e2 := st 1 (by omega) _ e1
  have e3 := st 2 (by omega) _ e2
  have e4 := st 3 (by omega) _ e3
  have e5 := st 4 (by omega) _ e4
  have e6 := st 5 (by omega) _ e5
  have e7 := st 6 (by omega) _ e6
  have e8 := st 7 (by omega) _ e7
  refine e8.trans (congrArg nI ?_)
  unfold pc8
  simp only [Nat.pow_zero, Nat.div_one, Nat.reducePow, Nat.add_assoc]
theorem bts_w3 {a b c : Nat} (ha : a < 256) (hb : b < 256) (hc : c < 16) : btsI (nI (w3 c b a)) 20 = nI (pc8 a + pc8 b + pc8 c) := by
  have h : w3 c b a < 2 ^ 31 := by unfold w3; omega
  have e0 : btsI (nI (w3 c b a)) 0 = nI 0 := rfl
  have e1 := bts8 (a := a) h (by omega) (by unfold w3; omega) e0
  have e2 := bts8 (a := b) h (by omega) (by unfold w3; omega) e1
  have e3 := bts_s h (k := 19) (by omega) (bts_s h (k := 18) (by omega) (bts_s h (k := 17) (by omega) (bts_s h (k := 16) (by omega) e2)))
  have d : w3 c b a / 2 ^ 16 = c := by unfold w3; omega
  have f1 : w3 c b a / 2 ^ 17 = c / 2 := by rw [show 2 ^ 17 = 2 ^ 16 * 2 from rfl, ← Nat.div_div_eq_div_mul, d]
  have f2 : w3 c b a / 2 ^ 18 = c / 4 := by rw [show 2 ^ 18 = 2 ^ 16 * 4 from rfl, ← Nat.div_div_eq_div_mul, d]
  have f3 : w3 c b a / 2 ^ 19 = c / 8 := by rw [show 2 ^ 19 = 2 ^ 16 * 8 from rfl, ← Nat.div_div_eq_div_mul, d]
  rw [d, f1, f2, f3] at e3
  rw [e3]
  unfold pc8
  congr 1
  omega
/-- the machine's bit count is the sum of the lowest twenty bits, where no other is set -/
theorem jbc_bts {v : Int32} (h : ∀ i, 20 ≤ i → i < 32 → v.toBitVec.getLsbD i = false) : jbc v = btsI v 20 := by
  have hN : v.toBitVec.toNat < 2 ^ 20 := by
    apply Nat.lt_pow_two_of_testBit
    intro i hi
    by_cases g : i < 32
    · exact h i hi g
    · exact BitVec.getLsbD_of_ge _ _ (by omega)
  have e : v = nI v.toBitVec.toNat := by
    apply Int32.toBitVec_inj.mp
    show v.toBitVec = BitVec.ofNat 32 v.toBitVec.toNat
    simp
  obtain ⟨a, b, c, hw, ha, hb, hc⟩ := w3_of _ hN
  rw [e, hw, jbc_w3 ha hb hc, bts_w3 ha hb hc]
