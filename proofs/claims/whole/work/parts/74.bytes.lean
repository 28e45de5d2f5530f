/-! BRIDGES: bytes -/
theorem gl255 {w i : Nat} (hi : i < w) : (BitVec.ofNat w 255).getLsbD i = decide (i < 8) := by
  rw [BitVec.getLsbD_ofNat]
  simp only [hi, decide_true, Bool.true_and]
  by_cases h : i < 8
  · simp only [h, decide_true]
    rcases (show i = 0 ∨ i = 1 ∨ i = 2 ∨ i = 3 ∨ i = 4 ∨ i = 5 ∨ i = 6 ∨ i = 7 by omega) with rfl | rfl | rfl | rfl | rfl | rfl | rfl | rfl <;> rfl
  · simp only [h, decide_false]
    exact Nat.testBit_lt_two_pow (Nat.lt_of_lt_of_le (show 255 < 2 ^ 8 by decide) (Nat.pow_le_pow_right (by decide) (by omega)))
theorem c255 : (255 : Int32).toBitVec = BitVec.ofNat 32 255 := by decide
theorem c255L : (255 : Int64).toBitVec = BitVec.ofNat 64 255 := by decide
theorem gl_by8 (z : Int32) {i : Nat} (hi : i < 8) : (by8 z).toBitVec.getLsbD i = z.toBitVec.getLsbD i := by
  unfold by8
  rw [Int8.toBitVec_toInt32, Int32.toBitVec_toInt8, BitVec.getLsbD_signExtend, BitVec.getLsbD_signExtend]
  simp [hi, show i < 32 by omega]
theorem by8_255 (z : Int32) : by8 z &&& 255 = z &&& 255 := by
  refine i32_ext (fun i hi => ?_)
  rw [Int32.toBitVec_and, Int32.toBitVec_and, BitVec.getLsbD_and, BitVec.getLsbD_and, c255, gl255 hi]
  by_cases h : i < 8
  · rw [gl_by8 z h]
  · simp [h]
theorem gl_ub {v : Int64} {k : Int32} {K : Nat} (hs : ((k.toInt64 &&& 63).toBitVec.smod 64).toNat = K) (hK : K + 8 ≤ 64) {i : Nat} (hi : i < 32) : (ub v k).toBitVec.getLsbD i = (decide (i < 8) && v.toBitVec.getLsbD (K + i)) := by
  unfold ub
  rw [Int64.toBitVec_toInt32, BitVec.getLsbD_signExtend, Int64.toBitVec_and, c255L]
  simp only [hi, decide_true, Bool.true_and, show i < 64 by omega, if_true]
  rw [BitVec.getLsbD_and, gl255 (by omega), Int64.toBitVec_shiftRight, BitVec.sshiftRight', hs, BitVec.getLsbD_sshiftRight]
  by_cases h : i < 8
  · simp [h, show K + i < 64 by omega, show ¬ 64 ≤ i by omega]
  · simp [h]
theorem gl_jus {x s : Int32} {K : Nat} (hs : ((s.toUInt32 &&& Int32.toUInt32 31).toBitVec % 32).toNat = K) {i : Nat} : (jus x s).toBitVec.getLsbD i = x.toBitVec.getLsbD (K + i) := by
  unfold jus
  show (x.toUInt32 >>> (s.toUInt32 &&& Int32.toUInt32 31)).toBitVec.getLsbD i = _
  rw [UInt32.toBitVec_shiftRight]
  show (x.toBitVec >>> ((s.toUInt32 &&& Int32.toUInt32 31).toBitVec % 32)).getLsbD i = _
  rw [BitVec.ushiftRight_eq', BitVec.getLsbD_ushiftRight, hs]
theorem gl_s64 {x : Int32} {j : Nat} (h : j < 32) : x.toInt64.toBitVec.getLsbD j = x.toBitVec.getLsbD j := by
  rw [Int32.toBitVec_toInt64, BitVec.getLsbD_signExtend]
  simp [h, show j < 64 by omega]
theorem byte_eq {x s : Int32} {v : Int64} {k : Int32} {J K : Nat} (h1 : ((s.toUInt32 &&& Int32.toUInt32 31).toBitVec % 32).toNat = J) (h2 : ((k.toInt64 &&& 63).toBitVec.smod 64).toNat = K) (hK : K + 8 ≤ 64) (hx : ∀ i, i < 8 → x.toBitVec.getLsbD (J + i) = v.toBitVec.getLsbD (K + i)) : by8 (jus x s) &&& 255 = ub v k := by
  rw [by8_255]
  refine i32_ext (fun i hi => ?_)
  rw [Int32.toBitVec_and, BitVec.getLsbD_and, c255, gl255 hi, gl_ub h2 hK hi, gl_jus h1]
  by_cases h : i < 8
  · simp [h, hx i h]
  · simp [h]
theorem bI_u (x : Int32) : (bI x).map (· &&& 255) = uB4 x.toInt64 := by
  unfold bI uB4
  simp only [List.map_cons, List.map_nil]
  rw [byte_eq (v := x.toInt64) (k := 24) (J := 24) (K := 24) (by decide) (by decide) (by omega) (fun i hi => (gl_s64 (by omega)).symm),
    byte_eq (v := x.toInt64) (k := 16) (J := 16) (K := 16) (by decide) (by decide) (by omega) (fun i hi => (gl_s64 (by omega)).symm),
    byte_eq (v := x.toInt64) (k := 8) (J := 8) (K := 8) (by decide) (by decide) (by omega) (fun i hi => (gl_s64 (by omega)).symm),
    byte_eq (v := x.toInt64) (k := 0) (J := 0) (K := 0) (by decide) (by decide) (by omega) (fun i hi => (gl_s64 (by omega)).symm)]
theorem jus_0 (x : Int32) : jus x 0 = x := i32_ext (fun i _ => by rw [gl_jus (K := 0) (by decide), Nat.zero_add])
theorem b1_u (x : Int32) : by8 x &&& 255 = ub x.toInt64 0 := by
  have h := byte_eq (x := x) (s := 0) (v := x.toInt64) (k := 0) (J := 0) (K := 0) (by decide) (by decide) (by omega) (fun i hi => (gl_s64 (by omega)).symm)
  rwa [jus_0] at h
theorem gl_hi {x : Int64} {j : Nat} (h : j < 32) : (hiL x).toBitVec.getLsbD j = x.toBitVec.getLsbD (32 + j) := by
  unfold hiL
  rw [Int64.toBitVec_toInt32, BitVec.getLsbD_signExtend]
  simp only [h, decide_true, Bool.true_and, show j < 64 by omega, if_true]
  show (x.toUInt64 >>> ((32 : Int32).toInt64.toUInt64 &&& Int64.toUInt64 63)).toBitVec.getLsbD j = _
  rw [UInt64.toBitVec_shiftRight]
  show (x.toBitVec >>> (((32 : Int32).toInt64.toUInt64 &&& Int64.toUInt64 63).toBitVec % 64)).getLsbD j = _
  rw [BitVec.ushiftRight_eq', BitVec.getLsbD_ushiftRight, show (((32 : Int32).toInt64.toUInt64 &&& Int64.toUInt64 63).toBitVec % 64).toNat = 32 by decide]
theorem gl_lo {x : Int64} {j : Nat} (h : j < 32) : x.toInt32.toBitVec.getLsbD j = x.toBitVec.getLsbD j := by
  rw [Int64.toBitVec_toInt32, BitVec.getLsbD_signExtend]
  simp [h, show j < 64 by omega]
theorem bL_u (x : Int64) : (bL x).map (· &&& 255) = uB8 x := by
  unfold bL uB8 bI
  simp only [List.map_cons, List.map_nil, List.map_append, List.cons_append, List.nil_append]
  rw [byte_eq (x := hiL x) (v := x) (k := 56) (J := 24) (K := 56) (by decide) (by decide) (by omega) (fun i hi => by rw [gl_hi (by omega)]; congr 1; omega),
    byte_eq (x := hiL x) (v := x) (k := 48) (J := 16) (K := 48) (by decide) (by decide) (by omega) (fun i hi => by rw [gl_hi (by omega)]; congr 1; omega),
    byte_eq (x := hiL x) (v := x) (k := 40) (J := 8) (K := 40) (by decide) (by decide) (by omega) (fun i hi => by rw [gl_hi (by omega)]; congr 1; omega),
    byte_eq (x := hiL x) (v := x) (k := 32) (J := 0) (K := 32) (by decide) (by decide) (by omega) (fun i hi => by rw [gl_hi (by omega)]; congr 1; omega),
    byte_eq (x := x.toInt32) (v := x) (k := 24) (J := 24) (K := 24) (by decide) (by decide) (by omega) (fun i hi => gl_lo (by omega)),
    byte_eq (x := x.toInt32) (v := x) (k := 16) (J := 16) (K := 16) (by decide) (by decide) (by omega) (fun i hi => gl_lo (by omega)),
    byte_eq (x := x.toInt32) (v := x) (k := 8) (J := 8) (K := 8) (by decide) (by decide) (by omega) (fun i hi => gl_lo (by omega)),
    byte_eq (x := x.toInt32) (v := x) (k := 0) (J := 0) (K := 0) (by decide) (by decide) (by omega) (fun i hi => gl_lo (by omega))]
/-! BRIDGES: the bytes of a row -/
theorem and_255 (x : Int32) : (x &&& 255) &&& 255 = x &&& 255 := by
  refine i32_ext (fun i hi => ?_)
  rw [Int32.toBitVec_and, BitVec.getLsbD_and, Int32.toBitVec_and, BitVec.getLsbD_and]
  cases (x.toBitVec.getLsbD i) <;> cases ((255 : Int32).toBitVec.getLsbD i) <;> rfl
theorem oct_u {f g : Nat → Int32} {b : Nat} : ∀ {n : Nat}, (∀ j, j < n → g (b + j) = f j &&& 255) → (octB f n).map (· &&& 255) = m1 g b n := by
  intro n
  induction n with
  | zero => intro _; rfl
  | succ n ih =>
    intro h
    rw [octB, m1, List.map_append, ih (fun j hj => h j (by omega)), h n (by omega), uB1, ← b1_u]
    simp only [List.map_cons, List.map_nil]
    rw [by8_255, by8_255, and_255]
theorem ros_u {fb fi gb gi : Nat → Int32} {b : Nat} : ∀ {n : Nat}, (∀ j, j < n → gb (b + j) = fb j ∧ gi (b + j) = fi j) → (rosB fb fi n).map (· &&& 255) = m5 gb gi b n := by
  intro n
  induction n with
  | zero => intro _; rfl
  | succ n ih =>
    intro h
    rw [rosB, m5, List.map_append, ih (fun j hj => h j (by omega)), (h n (by omega)).1, (h n (by omega)).2, uB1, ← b1_u, ← bI_u, List.map_append]
    rfl
theorem end_u (x : Int32) : by8 (if x = 0 then 0 else 1) &&& 255 = ub (if x = 0 then 0 else 1) 0 := by
  by_cases h : x = 0
  · rw [if_pos h, if_pos h]; decide
  · rw [if_neg h, if_neg h]; decide
theorem del_u {fp ft fe gp gt ge : Nat → Int32} {b : Nat} : ∀ {n : Nat}, (∀ j, j < n → gp (b + j) = fp j ∧ gt (b + j) = ft j ∧ ge (b + j) = fe j) → (delB fp ft fe n).map (· &&& 255) = m6 gp gt ge b n := by
  intro n
  induction n with
  | zero => intro _; rfl
  | succ n ih =>
    intro h
    obtain ⟨h1, h2, h3⟩ := h n (by omega)
    rw [delB, m6, List.map_append, ih (fun j hj => h j (by omega)), h1, h2, h3, uB1, ← b1_u, ← bI_u, List.map_append, List.map_append, uB1, ← end_u]
    rfl
theorem pth_u {f g : Nat → Int32} {b : Nat} : ∀ {n : Nat}, (∀ j, j < n → g (b + j) = f j) → (pthB f n).map (· &&& 255) = m4 g b n := by
  intro n
  induction n with
  | zero => intro _; rfl
  | succ n ih =>
    intro h
    rw [pthB, m4, List.map_append, ih (fun j hj => h j (by omega)), h n (by omega), bI_u]
/-- the bytes of a row's picture -/
def cB (r : RowP) : List Int32 := rowB (nI (r.1 17)) (r.2.1 1) r.2.2.1 (r.1 12) (r.2.2.2 0) (r.2.2.2 1) (r.2.2.2 2) (r.1 15) (r.2.2.2 3) (r.2.2.2 4) (r.1 16) (r.2.2.2 5) (r.2.2.2 6) (r.2.2.2 7) (r.1 13) (r.2.2.2 8)
/-- row i in the reference's arrays is the picture r (but for its signatures) -/
def rw0 (am : Nat → Nat → Int32) (al : Nat → Nat → Int64) (r : RowP) (i : Nat) : Prop :=
  rOk r ∧ r.2.1 0 = nI i ∧ (am 10 i = nI (r.1 17) ∧ am 12 i = nI (r.1 12) ∧ am 15 i = nI (r.1 15) ∧ am 18 i = nI (r.1 16) ∧ am 22 i = nI (r.1 13) ∧ am 24 i = nI (r.1 14)) ∧ (am 11 i = r.2.1 1 ∧ al 14 i = r.2.2.1) ∧
  (∀ j, j < r.1 12 → am 13 (16 * i + j) = r.2.2.2 0 j &&& 255) ∧ (r.1 17 = 0 → ∀ j, j < 10 → am 8 (10 * i + j) = r.2.2.2 1 j ∧ am 9 (10 * i + j) = r.2.2.2 2 j) ∧
  (∀ j, j < r.1 15 → am 16 (7 * i + j) = r.2.2.2 3 j ∧ am 17 (7 * i + j) = r.2.2.2 4 j) ∧ (∀ j, j < r.1 16 → am 19 (6 * i + j) = r.2.2.2 5 j ∧ am 20 (6 * i + j) = r.2.2.2 6 j ∧ am 21 (6 * i + j) = r.2.2.2 7 j) ∧ (∀ j, j < r.1 13 → am 23 (6 * i + j) = r.2.2.2 8 j)
theorem mB_c {am : Nat → Nat → Int32} {al : Nat → Nat → Int64} {pq : Nat → Nat → Nat} {r : RowP} {i : Nat} (h : rw0 am al r i) (hp : pq i = r.1) : mB am al pq i = (cB r).map (· &&& 255) := by
  obtain ⟨⟨-, -, -, -, -, k17⟩, -, -, ⟨h1, h2⟩, h3, h4, h5, h6, h7⟩ := h
  unfold mB cB mrowB rowB mH rowH
  rw [hp, h1, h2, List.map_append, List.map_append, List.map_append, List.map_append, List.map_append, oct_u h3, bL_u, bI_u]
  simp only [List.map_cons, List.map_nil, b1_u]
  congr 1
  by_cases g0 : r.1 17 = 0
  · rw [if_pos g0, if_pos (show nI (r.1 17) = 0 by rw [g0]; rfl), ros_u (h4 g0)]
  · rw [if_neg g0, if_neg (show ¬ nI (r.1 17) = 0 from nI_ne0 (by omega) (by omega))]
    by_cases g3 : r.1 17 < 3
    · rw [if_pos g3, if_pos (show nI (r.1 17) < 3 from nI_lt (b := 3) g3 (by omega)), tldB, List.map_append, ros_u h5]
      simp only [List.map_cons, List.map_nil, b1_u]
      rfl
    · rw [if_neg g3, if_neg (show ¬ nI (r.1 17) < 3 from nI_nlt (b := 3) (by omega) (by omega)), dlgB, lstB, List.map_append, List.map_append, List.map_append, del_u h6, pth_u h7]
      simp only [List.map_cons, List.map_nil, b1_u]
      rfl
theorem cB_le {r : RowP} (h : rOk r) : (cB r).length ≤ 92 := rowB_len_le _ _ _ _ _ _ _ _ _ _ _ _ h.1 h.2.2.2.1 h.2.2.2.2.1 h.2.1
