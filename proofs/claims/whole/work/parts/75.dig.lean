/-! BRIDGES: the digest -/
theorem len_u : ∀ n : Nat, n < 120 → ∀ d : Nat, d < 8 → (uB8 (8 * (nI n).toInt64)).getD d 0 = (if d = 6 then by8 (jus (nI (n * 8)) 8) else if d = 7 then by8 (nI (n * 8)) else 0) &&& 255 := by decide +kernel
theorem pad_u {f g : Nat → Int32} {n e : Nat} (hn : n < 120) (he : n + 9 ≤ e) (h : ∀ j, j < n → g j = f j &&& 255) : ∀ j, j < e → padU g n e j = padc f n e j &&& 255 := by
  intro j hj
  unfold padU padc
  by_cases h1 : j < n
  · rw [if_pos h1, if_pos h1, h j h1]
  · rw [if_neg h1, if_neg h1]
    by_cases h2 : j = n
    · rw [if_pos h2, if_pos h2]; decide
    · rw [if_neg h2, if_neg h2]
      by_cases h3 : j < e - 8
      · rw [if_pos h3, if_neg (by omega), if_neg (by omega)]; decide
      · rw [if_neg h3, len_u n hn _ (by omega)]
        congr 1
        by_cases h4 : j = e - 2
        · rw [if_pos h4, if_pos (by omega)]
        · rw [if_neg h4, if_neg (by omega)]
          by_cases h5 : j = e - 1
          · rw [if_pos h5, if_pos (by omega)]
          · rw [if_neg h5, if_neg (by omega)]
theorem mwd_u {f g : Nat → Int32} {b e : Nat} (h : ∀ j, j < e → g j = f j &&& 255) (hb : b + 64 ≤ e) : ∀ t, t < 16 → mwd g b t = wd f b t := by
  intro t ht
  unfold mwd wd
  rw [h _ (by omega), h _ (by omega), h _ (by omega), h _ (by omega)]
theorem sha_u {f g : Nat → Int32} {n : Nat} (hn : n < 120) (h : ∀ j, j < n → g j = f j &&& 255) : ∀ i, i < 8 → shaU g n i = shaF f n i := by
  intro i hi
  unfold shaU shaF
  by_cases h1 : n + 9 ≤ 64
  · rw [if_pos h1, if_pos h1]
    exact blk_congr (fun _ _ => rfl) (mwd_u (pad_u hn h1 h) (by omega)) i hi
  · rw [if_neg h1, if_neg h1]
    have hp := pad_u (e := 128) hn (by omega) h
    exact blk_congr (blk_congr (fun _ _ => rfl) (mwd_u hp (by omega))) (mwd_u hp (by omega)) i hi
theorem shaUL_c {L : List Int32} (h : L.length < 120) : ∀ i, i < 8 → shaUL (L.map (· &&& 255)) i = shaL L i := by
  intro i hi
  unfold shaUL shaL
  rw [List.length_map]
  refine sha_u h (fun j hj => ?_) i hi
  rw [ap0 _ _ (by rw [List.length_map]; exact hj), ap0 _ _ hj, List.getD_eq_getElem?_getD, List.getD_eq_getElem?_getD, List.getElem?_map, List.getElem?_eq_getElem hj]
  rfl
theorem mdB_congr {f g : Nat → Int32} (h : ∀ i, i < 8 → f i = g i) {k : Nat} (hk : k < 32) : mdB f k = mdB g k := by
  unfold mdB
  rw [h _ (by omega)]
theorem jus_hn : ∀ j : Nat, j < 4 → (((nI (24 - 8 * j)).toUInt32 &&& Int32.toUInt32 31).toBitVec % 32).toNat = 24 - 8 * j := by decide
theorem nI_bv (v : Int32) : v = nI v.toBitVec.toNat := by
  apply Int32.toBitVec_inj.mp
  show v.toBitVec = BitVec.ofNat 32 v.toBitVec.toNat
  simp
/-- byte k of the digest, as a number -/
theorem mdB_n (w : Nat → Int32) (k : Nat) : mdB w k = nI ((w (k / 4)).toBitVec.toNat / 2 ^ (24 - 8 * (k % 4)) % 256) := by
  unfold mdB
  rw [nI_bv (w (k / 4))]
  have hl : (w (k / 4)).toBitVec.toNat < 2 ^ 32 := (w (k / 4)).toBitVec.isLt
  generalize (w (k / 4)).toBitVec.toNat = N at hl
  have e : jus (nI N) (nI (24 - 8 * (k % 4))) = nI (N / 2 ^ (24 - 8 * (k % 4))) := pk_ushrN hl _ _ (jus_hn _ (by omega))
  rw [e, pk_andN (Nat.lt_of_le_of_lt (Nat.div_le_self _ _) hl) 8 (by decide)]
  show _ = nI (BitVec.toNat (BitVec.ofNat 32 N) / _ % 256)
  rw [BitVec.toNat_ofNat, Nat.mod_eq_of_lt hl]
theorem by8_and (x : Int32) : by8 (x &&& 255) = by8 x := by
  have h : (x &&& 255).toInt8 = x.toInt8 := by
    apply Int8.toBitVec_inj.mp
    rw [Int32.toBitVec_toInt8, Int32.toBitVec_toInt8]
    apply BitVec.eq_of_getLsbD_eq
    intro i hi
    rw [BitVec.getLsbD_signExtend, BitVec.getLsbD_signExtend, Int32.toBitVec_and, BitVec.getLsbD_and, c255, gl255 (by omega)]
    simp [hi, show i < 32 by omega]
  unfold by8
  rw [h]
/-- an eight byte number, byte by byte -/
theorem f8_step {v : Int64} {N b : Nat} (h : v.toBitVec.toNat = N % 2 ^ 64) (hb : b < 256) : ((v <<< ((8 : Int32).toInt64 &&& 63)) ||| (nI b).toInt64).toBitVec.toNat = (N * 256 + b) % 2 ^ 64 := by
  have e1 : (nI b).toInt64.toBitVec = BitVec.ofNat 64 b := by
    rw [nI_l (by omega)]
    rfl
  rw [Int64.toBitVec_or, BitVec.toNat_or, e1, Int64.toBitVec_shiftLeft, BitVec.shiftLeft_eq', show (((8 : Int32).toInt64 &&& 63).toBitVec.smod 64).toNat = 8 by decide, BitVec.toNat_shiftLeft, h, BitVec.toNat_ofNat, Nat.mod_eq_of_lt (show b < 2 ^ 64 by omega)]
  have e2 : (N % 2 ^ 64) <<< 8 % 2 ^ 64 = (N % 2 ^ 56) <<< 8 := by
    rw [Nat.shiftLeft_eq, Nat.shiftLeft_eq]
    omega
  rw [e2, ← Nat.shiftLeft_add_eq_or_of_lt (show b < 2 ^ 8 by omega), Nat.shiftLeft_eq]
  omega
theorem gl_m32 {i : Nat} (hi : i < 64) : (4294967295 : Int64).toBitVec.getLsbD i = decide (i < 32) := by
  rw [show (4294967295 : Int64).toBitVec = (BitVec.allOnes 32).setWidth 64 by decide, BitVec.getLsbD_setWidth, BitVec.getLsbD_allOnes]
  simp [hi]
theorem eight_bv (w : Nat → Int32) : (eight w).toBitVec = ((w 0).toBitVec ++ (w 1).toBitVec).cast (by decide) := by
  apply BitVec.eq_of_getLsbD_eq
  intro i hi
  unfold eight
  rw [BitVec.getLsbD_cast, BitVec.getLsbD_append, Int64.toBitVec_or, BitVec.getLsbD_or, Int64.toBitVec_and, BitVec.getLsbD_and, gl_m32 hi, Int64.toBitVec_shiftLeft, BitVec.shiftLeft_eq', show (((32 : Int32).toInt64 &&& 63).toBitVec.smod 64).toNat = 32 by decide, BitVec.getLsbD_shiftLeft]
  by_cases h : i < 32
  · rw [gl_s64 h]; simp only [h, decide_true, Bool.not_true, Bool.and_false, Bool.false_and, Bool.false_or, Bool.and_true, if_true]
  · simp only [h, decide_false, Bool.and_false, Bool.or_false, hi, decide_true, Bool.true_and, Bool.not_false, if_false]
    rw [gl_s64 (by omega)]
theorem f8_eight (w : Nat → Int32) : f8n (mdB w) 8 = eight w := by
  apply Int64.toBitVec_inj.mp
  apply BitVec.eq_of_toNat_eq
  have s0 : (f8n (mdB w) 0).toBitVec.toNat = 0 % 2 ^ 64 := rfl
  have st : ∀ k N, (f8n (mdB w) k).toBitVec.toNat = N % 2 ^ 64 → (f8n (mdB w) (k + 1)).toBitVec.toNat = (N * 256 + (w (k / 4)).toBitVec.toNat / 2 ^ (24 - 8 * (k % 4)) % 256) % 2 ^ 64 := fun k N h => by
    rw [f8n, mdB_n]
    exact f8_step h (by omega)
  have s8 := st 7 _ (st 6 _ (st 5 _ (st 4 _ (st 3 _ (st 2 _ (st 1 _ (st 0 _ s0)))))))
  have ha : (w 0).toBitVec.toNat < 2 ^ 32 := (w 0).toBitVec.isLt
  have hb : (w 1).toBitVec.toNat < 2 ^ 32 := (w 1).toBitVec.isLt
  rw [s8, eight_bv, BitVec.toNat_cast, BitVec.toNat_append, ← Nat.shiftLeft_add_eq_or_of_lt hb, Nat.shiftLeft_eq]
  simp only [Nat.reduceDiv, Nat.reduceMod, Nat.reduceMul, Nat.reduceSub, Nat.reducePow, Nat.zero_mul, Nat.zero_add, Nat.div_one]
  generalize (w 0).toBitVec.toNat = a at ha ⊢
  generalize (w 1).toBitVec.toNat = b at hb ⊢
  omega
theorem mSig_c {L : List Int32} (h : L.length < 120) : mSig (L.map (· &&& 255)) = eight (shaL L) := by
  unfold mSig
  rw [f8_eight]
  exact eight_congr (shaUL_c h)
