/-! STEPS: the other calls on rows -/
section ST
variable {kn nn : Nat} {fs fu : Nat → Int64} {fn fm : Nat → Int32} {pr : Nat → RowP} {ci : Nat → Option Nat} {rev : Int32} {fd : Nat → Int32} {am : Nat → Nat → Int32} {al : Nat → Nat → Int64}
theorem st_delegate (R : Rl kn nn fs fu fn fm pr ci rev fd am al) {i : Nat} (hi : i < nn) {y u z ev r r' : Int32} (hy : y = nI i) {n2 : Nat} {gp gt ge g18 g19 g20 g21 : Nat → Int32}
    (h : (((pr i).1 14 = 0 ∧ ¬ nI ((pr i).1 17) < 3 ∧ ¬ cnt u 15 = 0 ∧ ¬ z < 4 ∧ z < 10 ∧ (pr i).1 16 < 6) ∧ r = nI ((pr i).1 16 + 1) ∧ n2 = (pr i).1 16 + 1 ∧ gp = upd ((pr i).2.2.2 5) ((pr i).1 16) u ∧ gt = upd ((pr i).2.2.2 6) ((pr i).1 16) z ∧ ge = upd ((pr i).2.2.2 7) ((pr i).1 16) ev) ∨ (¬ ((pr i).1 14 = 0 ∧ ¬ nI ((pr i).1 17) < 3 ∧ ¬ cnt u 15 = 0 ∧ ¬ z < 4 ∧ z < 10 ∧ (pr i).1 16 < 6) ∧ r = -1 ∧ n2 = (pr i).1 16 ∧ gp = (pr i).2.2.2 5 ∧ gt = (pr i).2.2.2 6 ∧ ge = (pr i).2.2.2 7))
    (h' : (∃ i, i < nn ∧ y = nI i ∧ am 24 i = 0 ∧ ¬ (pr i).1 17 < 3 ∧ ¬ cnt u 15 = 0 ∧ ¬ z < 4 ∧ ¬ 10 ≤ z ∧ (pr i).1 16 < 6 ∧ r' = nI ((pr i).1 16 + 1) ∧ g18 = upd (am 18) i (nI ((pr i).1 16 + 1)) ∧ g19 = upd (am 19) (6 * i + (pr i).1 16) u ∧ g20 = upd (am 20) (6 * i + (pr i).1 16) z ∧ g21 = upd (am 21) (6 * i + (pr i).1 16) ev) ∨ (¬ (∃ i, i < nn ∧ y = nI i ∧ am 24 i = 0 ∧ ¬ (pr i).1 17 < 3 ∧ ¬ cnt u 15 = 0 ∧ ¬ z < 4 ∧ ¬ 10 ≤ z ∧ (pr i).1 16 < 6) ∧ r' = -1 ∧ g18 = am 18 ∧ g19 = am 19 ∧ g20 = am 20 ∧ g21 = am 21)) :
    r = r' ∧ Rl kn nn fs fu fn fm (upR pr i (updN (pr i).1 16 n2, (pr i).2.1, (pr i).2.2.1, uA (uA (uA (pr i).2.2.2 5 gp) 6 gt) 7 ge)) ci rev fd (uA (uA (uA (uA am 18 g18) 19 g19) 20 g20) 21 g21) al := by
  obtain ⟨w0, w1⟩ := R.2.2.2.1 i hi
  have hn := R.1.2
  have e24 : am 24 i = 0 ↔ (pr i).1 14 = 0 := by rw [w0.2.2.1.2.2.2.2.2]; exact nI_z (by have := w0.1.2.2.1; omega)
  have e3 : nI ((pr i).1 17) < 3 ↔ (pr i).1 17 < 3 := nI_ltI (b := 3) (by have := w0.1.2.2.2.2.2; omega) (by omega)
  rcases h with ⟨⟨h0, h1, h2, h3, h4, h5⟩, rfl, rfl, rfl, rfl, rfl⟩ | ⟨h0, rfl, rfl, rfl, rfl, rfl⟩
  · rcases h' with ⟨i', g1, g2, g3, g4, g5, g6, g7, g8, rfl, rfl, rfl, rfl, rfl⟩ | ⟨g1, -⟩
    · have e : i = i' := (nI_eq (by omega) (by omega)).mp (hy.symm.trans g2)
      subst e
      refine ⟨rfl, Rl.row1 R ⟨⟨rfl, rfl, rfl, rfl, rfl, rfl, rfl⟩, rfl, rfl⟩ hi (fun q hq => ?_) rfl ⟨?_, rw1_0 (by simp only [updN, reduceIte, Nat.reduceEqDiff]; exact h0) (rk0 (r := pr i) w1 h0) ?_⟩⟩
      · refine ⟨⟨rfl, rfl, rfl, rfl, upd_ne hq, rfl, rfl, rfl⟩, fun _ _ => rfl, fun _ _ => ⟨rfl, rfl⟩, fun _ _ => ⟨rfl, rfl⟩, fun a ha => ⟨upd_ne (by omega), upd_ne (by omega), upd_ne (by omega), rfl⟩, fun _ _ => ⟨rfl, rfl⟩⟩
      · obtain ⟨⟨k1, k2, k3, k4, k5, k6⟩, n1, ⟨m1, m2, m3, m4, m5, m6⟩, v1, x1, x2, x3, x4, x5⟩ := w0
        simp only [rw0, rOk, uA, updN, reduceIte, Nat.reduceEqDiff]
        refine ⟨⟨k1, k2, k3, k4, by omega, k6⟩, n1, ⟨m1, m2, m3, upd_self _ _ _, m5, m6⟩, v1, x1, x2, x3, fun a ha => ?_, x5⟩
        by_cases q : a = (pr i).1 16
        · rw [q]; simp only [upd_self, and_self]
        · simp only [upd_ne (show 6 * i + a ≠ 6 * i + (pr i).1 16 by omega), upd_ne q]; exact x4 a (by omega)
      · simp only [updN, uA, reduceIte, Nat.reduceEqDiff]
        refine ⟨w1.2.2.1, w1.2.2.2.1, fun a ha => ?_, w1.2.2.2.2.2⟩
        by_cases q : a = (pr i).1 16
        · rw [q, upd_self]
          exact in_t 10 (fun g => h3 (Int32.lt_trans g (by decide))) g7 (by omega)
        · rw [upd_ne q]; exact w1.2.2.2.2.1 a (by omega)
    · exact absurd ⟨i, hi, hy, e24.mpr h0, fun z => h1 (e3.mpr z), h2, h3, Int32.not_le.mpr h4, h5⟩ g1
  · rcases h' with ⟨i', g1, g2, g3, g4, g5, g6, g7, g8, -⟩ | ⟨g1, rfl, rfl, rfl, rfl, rfl⟩
    · have e : i = i' := (nI_eq (by omega) (by omega)).mp (hy.symm.trans g2)
      subst e
      exact absurd ⟨e24.mp g3, fun z => g4 (e3.mp z), g5, g6, Int32.not_le.mp g7, g8⟩ h0
    · refine ⟨rfl, ?_⟩
      rw [updN_id, uA_id, uA_id, uA_id, uA_id, uA_id, uA_id, uA_id]
      show Rl kn nn fs fu fn fm (upR pr i (pr i)) ci rev fd am al
      rw [upR_id]; exact R
theorem tl_c (R : Rl kn nn fs fu fn fm pr ci rev fd am al) : ∀ i x, i < nn → am 24 i = 0 → may (nI ((pr i).1 17)) x → lastAt (am 16) (7 * i) x ((pr i).1 15) = none → (pr i).1 15 < 7 := by
  intro i x hi _ hm hl
  obtain ⟨w0, w1⟩ := R.2.2.2.1 i hi
  have hd := w1.2.2.2.1
  exact told7 w0.1.2.2.2.1 (fun j hj => (w1.2.2.1 j hj).1) hd hm ((la_none (fun j hj => (w0.2.2.2.2.2.2.1 j hj).1) hd).mp hl)
theorem st_tells (R : Rl kn nn fs fu fn fm pr ci rev fd am al) {i : Nat} (hi : i < nn) {y z v r r' : Int32} (hy : y = nI i) {n2 : Nat} {gr gv g15 g16 g17 : Nat → Int32}
    (h : (((pr i).1 14 = 0 ∧ may (nI ((pr i).1 17)) z ∧ (¬ v < 1 ∧ ¬ 1000000 < v)) ∧ ∃ j, isPl ((pr i).2.2.2 3) ((pr i).1 15) z j ∧ r = b1 (j < 7) ∧ (j < 7 → n2 = max ((pr i).1 15) (j + 1) ∧ gr = upd ((pr i).2.2.2 3) j z ∧ gv = upd ((pr i).2.2.2 4) j v) ∧ (¬ j < 7 → n2 = (pr i).1 15 ∧ gr = (pr i).2.2.2 3 ∧ gv = (pr i).2.2.2 4)) ∨ (¬ ((pr i).1 14 = 0 ∧ may (nI ((pr i).1 17)) z ∧ (¬ v < 1 ∧ ¬ 1000000 < v)) ∧ r = 0 ∧ n2 = (pr i).1 15 ∧ gr = (pr i).2.2.2 3 ∧ gv = (pr i).2.2.2 4))
    (h' : (∃ i, i < nn ∧ y = nI i ∧ am 24 i = 0 ∧ ¬ v < 1 ∧ v ≤ 1000000 ∧ may (nI ((pr i).1 17)) z ∧ r' = 1 ∧ ((∃ j, j < (pr i).1 15 ∧ lastAt (am 16) (7 * i) z ((pr i).1 15) = some j ∧ g15 = am 15 ∧ g16 = am 16 ∧ g17 = upd (am 17) (7 * i + j) v) ∨ (lastAt (am 16) (7 * i) z ((pr i).1 15) = none ∧ (pr i).1 15 < 7 ∧ g15 = upd (am 15) i (nI ((pr i).1 15 + 1)) ∧ g16 = upd (am 16) (7 * i + (pr i).1 15) z ∧ g17 = upd (am 17) (7 * i + (pr i).1 15) v))) ∨ (¬ (∃ i, i < nn ∧ y = nI i ∧ am 24 i = 0 ∧ ¬ v < 1 ∧ v ≤ 1000000 ∧ may (nI ((pr i).1 17)) z) ∧ r' = 0 ∧ g15 = am 15 ∧ g16 = am 16 ∧ g17 = am 17)) :
    r = r' ∧ Rl kn nn fs fu fn fm (upR pr i (updN (pr i).1 15 n2, (pr i).2.1, (pr i).2.2.1, uA (uA (pr i).2.2.2 3 gr) 4 gv)) ci rev fd (uA (uA (uA am 15 g15) 16 g16) 17 g17) al := by
  obtain ⟨w0, w1⟩ := R.2.2.2.1 i hi
  have hn := R.1.2
  have h7 := w0.1.2.2.2.1
  have ht := w0.2.2.2.2.2.2.1
  have hd := w1.2.2.2.1
  have e24 : am 24 i = 0 ↔ (pr i).1 14 = 0 := by rw [w0.2.2.1.2.2.2.2.2]; exact nI_z (by have := w0.1.2.2.1; omega)
  have la := fun j => la_iff (x := z) (fun j hj => (ht j hj).1) hd j
  rcases h with ⟨⟨h0, h1, h2, h3⟩, j, hp, hr, k1, k2⟩ | ⟨h0, rfl, rfl, rfl, rfl⟩
  · rcases h' with ⟨i', g1, g2, g3, g4, g5, g6, rfl, g7⟩ | ⟨g1, -⟩
    · have e : i = i' := (nI_eq (by omega) (by omega)).mp (hy.symm.trans g2)
      subst e
      have fin : ∀ j n2 gr gv g15 g16 g17, j < 7 → j ≤ (pr i).1 15 → n2 = max ((pr i).1 15) (j + 1) → gr = upd ((pr i).2.2.2 3) j z → gv = upd ((pr i).2.2.2 4) j v → (∀ q, q ≠ i → g15 q = am 15 q) → g15 i = nI n2 → (∀ q, q ≠ 7 * i + j → g16 q = am 16 q) → g16 (7 * i + j) = z → g17 = upd (am 17) (7 * i + j) v → (∀ k, k < (pr i).1 15 → (pr i).2.2.2 3 k = z → k = j) → Rl kn nn fs fu fn fm (upR pr i (updN (pr i).1 15 n2, (pr i).2.1, (pr i).2.2.1, uA (uA (pr i).2.2.2 3 gr) 4 gv)) ci rev fd (uA (uA (uA am 15 g15) 16 g16) 17 g17) al := by
        intro j n2 gr gv g15 g16 g17 j7 jn e1 e2 e3 e4 e5 e6 e7 e8 e9
        subst e2; subst e3; subst e8
        refine Rl.row1 R ⟨⟨rfl, rfl, rfl, rfl, rfl, rfl, rfl⟩, rfl, rfl⟩ hi (fun q hq => ?_) rfl ⟨?_, rw1_0 (by simp only [updN, reduceIte, Nat.reduceEqDiff]; exact h0) (rk0 (r := pr i) w1 h0) ?_⟩
        · refine ⟨⟨rfl, rfl, rfl, e4 q hq, rfl, rfl, rfl, rfl⟩, fun _ _ => rfl, fun _ _ => ⟨rfl, rfl⟩, fun a ha => ⟨e6 _ (by omega), upd_ne (by omega)⟩, fun a ha => ⟨rfl, rfl, rfl, rfl⟩, fun _ _ => ⟨rfl, rfl⟩⟩
        · obtain ⟨⟨k1, k2, k3, k4, k5, k6⟩, n1, ⟨m1, m2, m3, m4, m5, m6⟩, v1, x1, x2, x3, x4, x5⟩ := w0
          simp only [rw0, rOk, uA, updN, reduceIte, Nat.reduceEqDiff]
          refine ⟨⟨k1, k2, k3, by omega, k5, k6⟩, n1, ⟨m1, m2, e5, m4, m5, m6⟩, v1, x1, x2, fun a ha => ?_, x4, x5⟩
          by_cases q : a = j
          · rw [q, e7]; simp only [upd_self, and_self]
          · simp only [e6 (7 * i + a) (by omega), upd_ne (show 7 * i + a ≠ 7 * i + j by omega), upd_ne q]; exact x3 a (by omega)
        · simp only [updN, uA, reduceIte, Nat.reduceEqDiff]
          refine ⟨fun a ha => ?_, fun a b hab hb => ?_, w1.2.2.2.2.1, w1.2.2.2.2.2⟩
          · by_cases q : a = j
            · rw [q, upd_self, upd_self]; exact ⟨h1, h2⟩
            · rw [upd_ne q, upd_ne q]; exact w1.2.2.1 a (by omega)
          · by_cases q1 : a = j
            · rw [q1, upd_self, upd_ne (show b ≠ j by omega)]
              exact fun z1 => absurd (e9 b (by omega) z1.symm) (by omega)
            · rw [upd_ne q1]
              by_cases q2 : b = j
              · rw [q2, upd_self]; exact fun z1 => q1 (e9 a (by omega) z1)
              · rw [upd_ne q2]; exact hd a b hab (by omega)
      rcases g7 with ⟨j', q1, q2, rfl, rfl, rfl⟩ | ⟨q1, q2, rfl, rfl, rfl⟩
      · have hj' := (la j').mp q2
        have e : j = j' := isPl_u hp (pl_of hd hj'.1 hj'.2)
        subst e
        have j7 : j < 7 := by omega
        obtain ⟨z1, z2, z3⟩ := k1 j7
        refine ⟨by rw [hr, b1_t j7], fin j n2 gr gv _ _ _ j7 (by omega) z1 z2 z3 (fun _ _ => rfl) ?_ (fun _ _ => rfl) ?_ rfl (fun k hk hz => isPl_u (pl_of hd hk hz) hp)⟩
        · rw [z1, Nat.max_eq_left (by omega)]; exact w0.2.2.1.2.2.1
        · rw [(ht j hj'.1).1]; exact hj'.2
      · have hno := (la_none (fun j hj => (ht j hj).1) hd).mp q1
        have e : j = (pr i).1 15 := by
          rcases Nat.lt_or_ge j ((pr i).1 15) with g | g
          · exact absurd (hp.2.2 g) (hno j g)
          · have := hp.1; omega
        subst e
        obtain ⟨z1, z2, z3⟩ := k1 q2
        refine ⟨by rw [hr, b1_t q2], fin _ n2 gr gv _ _ _ q2 (Nat.le_refl _) z1 z2 z3 (fun q hq => upd_ne hq) ?_ (fun q hq => upd_ne hq) (upd_self _ _ _) rfl (fun k hk hz => absurd hz (hno k hk))⟩
        rw [upd_self, z1, Nat.max_eq_right (by omega)]
    · exact absurd ⟨i, hi, hy, e24.mpr h0, h2, Int32.not_lt.mp h3, h1⟩ g1
  · rcases h' with ⟨i', g1, g2, g3, g4, g5, g6, -⟩ | ⟨g1, rfl, rfl, rfl, rfl⟩
    · have e : i = i' := (nI_eq (by omega) (by omega)).mp (hy.symm.trans g2)
      subst e
      exact absurd ⟨e24.mp g3, g6, g4, Int32.not_lt.mpr g5⟩ h0
    · refine ⟨rfl, ?_⟩
      rw [updN_id, uA_id, uA_id, uA_id, uA_id, uA_id]
      show Rl kn nn fs fu fn fm (upR pr i (pr i)) ci rev fd am al
      rw [upR_id]; exact R
end ST
/-! STEPS: signatures, the client, digests -/
/-- a row's picture with other signatures -/
def sgR (r : RowP) (n : Nat) (k : Int32) : RowP := (updN r.1 14 n, upd r.2.1 2 k, r.2.2.1, r.2.2.2)
theorem sgR_id (r : RowP) : sgR r (r.1 14) (r.2.1 2) = r := by
  unfold sgR
  rw [updN_id]
  have e : upd r.2.1 2 (r.2.1 2) = r.2.1 := by
    funext j; unfold upd; by_cases e : j = 2
    · rw [if_pos e, e]
    · rw [if_neg e]
  rw [e]
theorem cB_sg (r : RowP) (n : Nat) (k : Int32) : cB (sgR r n k) = cB r := by
  simp only [cB, sgR, updN, upd, reduceIte, Nat.reduceEqDiff]
section ST
variable {kn nn : Nat} {fs fu : Nat → Int64} {fn fm : Nat → Int32} {pr : Nat → RowP} {ci : Nat → Option Nat} {rev : Int32} {fd : Nat → Int32} {am : Nat → Nat → Int32} {al : Nat → Nat → Int64}
/-- a signature more -/
theorem st_sig (R : Rl kn nn fs fu fn fm pr ci rev fd am al) {i k : Nat} (hi : i < nn) (hk : k < kn) (h12 : (pr i).1 14 < 12) {rk2 : Int32} {sv : Int64} {g24 g25 : Nat → Int32} {g26 : Nat → Int64}
    (h1 : sv = eight (shaL (bL (fs k) ++ cB (pr i))) → rk2 = (pr i).2.1 2 ||| (1 <<< (nI k &&& 31))) (h2 : ¬ sv = eight (shaL (bL (fs k) ++ cB (pr i))) → rk2 = (pr i).2.1 2)
    (e24 : g24 = upd (am 24) i (nI ((pr i).1 14 + 1))) (e25 : g25 = upd (am 25) (12 * i + (pr i).1 14) (nI k)) (e26 : g26 = vp_updL (al 26) (12 * i + (pr i).1 14) sv) {am' : Nat → Nat → Int32} (ho : oth am am' al al) (hq : ∀ q, agr am am' al al q) :
    Rl kn nn fs fu fn fm (upR pr i (sgR (pr i) ((pr i).1 14 + 1) rk2)) ci rev fd (uA (uA am' 24 g24) 25 g25) (uJ al 26 g26) := by
  have R2 := Rl.scr R ho hq
  subst e24; subst e25; subst e26
  have a24 : am' 24 = am 24 := by funext q; exact (hq q).1.2.2.2.2.2.2.1
  have a25 : ∀ q j, j < 12 → am' 25 (12 * q + j) = am 25 (12 * q + j) := fun q j hj => ((hq q).2.2.2.2.2 j hj).1
  obtain ⟨w0, w1⟩ := R2.2.2.2.1 i hi
  have r1 := R.1.1
  refine Rl.row1 R2 ⟨⟨rfl, rfl, rfl, rfl, rfl, rfl, rfl⟩, rfl, rfl⟩ hi (fun q hq1 => ?_) rfl ⟨?_, ?_⟩
  · refine ⟨⟨rfl, rfl, rfl, rfl, rfl, rfl, ?_, rfl⟩, fun _ _ => rfl, fun _ _ => ⟨rfl, rfl⟩, fun _ _ => ⟨rfl, rfl⟩, fun a ha => ⟨rfl, rfl, rfl, rfl⟩, fun a ha => ⟨?_, vp_un (by omega)⟩⟩
    · show upd (am 24) i _ q = am' 24 q
      rw [upd_ne hq1, a24]
    · show upd (am 25) _ _ (12 * q + a) = am' 25 (12 * q + a)
      rw [upd_ne (by omega), a25 q a ha]
  · obtain ⟨⟨k1, k2, k3, k4, k5, k6⟩, n1, ⟨m1, m2, m3, m4, m5, m6⟩, v1, x1, x2, x3, x4, x5⟩ := w0
    simp only [rw0, rOk, sgR, uA, uJ, updN, reduceIte, Nat.reduceEqDiff]
    refine ⟨⟨k1, k2, by omega, k4, k5, k6⟩, ?_, ⟨m1, m2, m3, m4, m5, upd_self _ _ _⟩, ?_, x1, x2, x3, x4, x5⟩
    · rw [upd_ne (by omega)]; exact n1
    · rw [upd_ne (by omega)]; exact v1
  · obtain ⟨y1, y2, y3, y4, y5, y6⟩ := w1
    refine ⟨?_, ?_, ?_⟩
    · simp only [sgR, uA, updN, reduceIte, Nat.reduceEqDiff]
      intro j hj
      by_cases z : j = (pr i).1 14
      · rw [z, upd_self]; exact ⟨k, hk, rfl⟩
      · rw [upd_ne (by omega), ← a25 i j (by omega)]; exact y1 j (by omega)
    · rw [cB_sg]
      simp only [sgR, uA, uJ, updN, upd_self, reduceIte, Nat.reduceEqDiff]
      have key : ∀ k', k' < kn → ((∃ j, j < (pr i).1 14 + 1 ∧ upd (am 25) (12 * i + (pr i).1 14) (nI k) (12 * i + j) = nI k' ∧ vp_updL (al 26) (12 * i + (pr i).1 14) sv (12 * i + j) = eight (shaL (bL (fs k') ++ cB (pr i)))) ↔ ((∃ j, j < (pr i).1 14 ∧ am' 25 (12 * i + j) = nI k' ∧ al 26 (12 * i + j) = eight (shaL (bL (fs k') ++ cB (pr i)))) ∨ (k' = k ∧ sv = eight (shaL (bL (fs k) ++ cB (pr i)))))) := by
        intro k' hk'
        constructor
        · rintro ⟨j, b1, b2, b3⟩
          by_cases z : j = (pr i).1 14
          · rw [z, upd_self] at b2
            rw [z, vp_us] at b3
            have e : k = k' := (nI_eq (by omega) (by omega)).mp b2
            subst e
            exact Or.inr ⟨rfl, b3⟩
          · rw [upd_ne (by omega)] at b2
            rw [vp_un (by omega)] at b3
            exact Or.inl ⟨j, by omega, (a25 i j (by omega)).trans b2, b3⟩
        · rintro (⟨j, b1, b2, b3⟩ | ⟨rfl, b3⟩)
          · refine ⟨j, by omega, ?_, ?_⟩
            · rw [upd_ne (by omega), ← a25 i j (by omega)]; exact b2
            · rw [vp_un (by omega)]; exact b3
          · exact ⟨(pr i).1 14, by omega, upd_self _ _ _, by rw [vp_us]; exact b3⟩
      by_cases g : sv = eight (shaL (bL (fs k) ++ cB (pr i)))
      · rw [h1 g, y2]
        exact mk_add (by omega) hk (fun k' hk' => (key k' hk').trans (or_congr Iff.rfl ⟨fun z => z.1, fun z => ⟨z, g⟩⟩))
      · rw [h2 g, y2]
        exact mk_congr (fun k' hk' => ((key k' hk').trans ⟨fun z => z.resolve_right (fun z => g z.2), Or.inl⟩).symm)
    · simp only [sgR, updN, upd, reduceIte, Nat.reduceEqDiff]
      exact ⟨y3, y4, y5, y6⟩
theorem st_sign (R : Rl kn nn fs fu fn fm pr ci rev fd am al) {i : Nat} (hi : i < nn) {y z : Int32} {r r' : Int64} (hy : y = nI i) {sn2 : Nat} {rk2 : Int32} {g24 g25 : Nat → Int32} {g26 : Nat → Int64} {am' : Nat → Nat → Int32} (ho : oth am am' al al) (hq : ∀ q, agr am am' al al q) (h25 : am' 24 = am 24 ∧ am' 25 = am 25)
    (h : (∃ k, k < kn ∧ z = nI k ∧ (pr i).1 14 < 12 ∧ r = eight (shaL (bL (fs k) ++ cB (pr i))) ∧ sn2 = (pr i).1 14 + 1 ∧ rk2 = (pr i).2.1 2 ||| (1 <<< (nI k &&& 31))) ∨ (¬ (isN z kn ∧ (pr i).1 14 < 12) ∧ r = 0 ∧ sn2 = (pr i).1 14 ∧ rk2 = (pr i).2.1 2))
    (h' : (∃ i k, i < nn ∧ y = nI i ∧ k < kn ∧ z = nI k ∧ (pr i).1 14 < 12 ∧ r' = mSig (uB8 (al 3 k) ++ mB am al (fun q => (pr q).1) i) ∧ g24 = upd (am 24) i (nI ((pr i).1 14 + 1)) ∧ g25 = upd (am 25) (12 * i + (pr i).1 14) (nI k) ∧ g26 = vp_updL (al 26) (12 * i + (pr i).1 14) (mSig (uB8 (al 3 k) ++ mB am al (fun q => (pr q).1) i))) ∨ (¬ (∃ i, i < nn ∧ y = nI i ∧ isN z kn ∧ (pr i).1 14 < 12) ∧ r' = 0 ∧ g24 = am 24 ∧ g25 = am 25 ∧ g26 = al 26)) :
    r = r' ∧ Rl kn nn fs fu fn fm (upR pr i (sgR (pr i) sn2 rk2)) ci rev fd (uA (uA am' 24 g24) 25 g25) (uJ al 26 g26) := by
  have hn := R.1.2
  have r1 := R.1.1
  have w0 := (R.2.2.2.1 i hi).1
  rcases h with ⟨k, h0, h1, h2, rfl, rfl, hrk⟩ | ⟨h0, rfl, rfl, rfl⟩
  · rcases h' with ⟨i', k', g1, g2, g3, g4, g5, rfl, e1, e2, e3⟩ | ⟨g1, -⟩
    · have e : i = i' := (nI_eq (by omega) (by omega)).mp (hy.symm.trans g2)
      subst e
      have e : k = k' := (nI_eq (by omega) (by omega)).mp (h1.symm.trans g4)
      subst e
      have es := sig_c (pq := fun q => (pr q).1) w0 rfl (R.2.1 k h0).1
      rw [es] at e3
      exact ⟨es.symm, st_sig R hi h0 h2 (fun _ => hrk) (fun z => absurd rfl z) e1 e2 e3 ho hq⟩
    · exact absurd ⟨i, hi, hy, ⟨k, h0, h1⟩, h2⟩ g1
  · rcases h' with ⟨i', k', g1, g2, g3, g4, g5, -⟩ | ⟨g1, rfl, rfl, rfl, rfl⟩
    · have e : i = i' := (nI_eq (by omega) (by omega)).mp (hy.symm.trans g2)
      subst e
      exact absurd ⟨⟨k', g3, g4⟩, g5⟩ h0
    · refine ⟨rfl, ?_⟩
      rw [← h25.1, ← h25.2, uA_id, uA_id, uJ_id, sgR_id, upR_id]
      exact Rl.scr R ho hq
theorem st_forge (R : Rl kn nn fs fu fn fm pr ci rev fd am al) {i : Nat} (hi : i < nn) {y z r r' : Int32} {sv : Int64} (hy : y = nI i) {sn2 : Nat} {rk2 : Int32} {g24 g25 : Nat → Int32} {g26 : Nat → Int64}
    (h : (∃ k, k < kn ∧ z = nI k ∧ (pr i).1 14 < 12 ∧ r = 1 ∧ sn2 = (pr i).1 14 + 1 ∧ (sv = eight (shaL (bL (fs k) ++ cB (pr i))) → rk2 = (pr i).2.1 2 ||| (1 <<< (nI k &&& 31))) ∧ (¬ sv = eight (shaL (bL (fs k) ++ cB (pr i))) → rk2 = (pr i).2.1 2)) ∨ (¬ (isN z kn ∧ (pr i).1 14 < 12) ∧ r = 0 ∧ sn2 = (pr i).1 14 ∧ rk2 = (pr i).2.1 2))
    (h' : (∃ i k, i < nn ∧ y = nI i ∧ k < kn ∧ z = nI k ∧ (pr i).1 14 < 12 ∧ r' = 1 ∧ g24 = upd (am 24) i (nI ((pr i).1 14 + 1)) ∧ g25 = upd (am 25) (12 * i + (pr i).1 14) (nI k) ∧ g26 = vp_updL (al 26) (12 * i + (pr i).1 14) sv) ∨ (¬ (∃ i, i < nn ∧ y = nI i ∧ isN z kn ∧ (pr i).1 14 < 12) ∧ r' = 0 ∧ g24 = am 24 ∧ g25 = am 25 ∧ g26 = al 26)) :
    r = r' ∧ Rl kn nn fs fu fn fm (upR pr i (sgR (pr i) sn2 rk2)) ci rev fd (uA (uA am 24 g24) 25 g25) (uJ al 26 g26) := by
  have hn := R.1.2
  have r1 := R.1.1
  have ho : oth am am al al := ⟨⟨rfl, rfl, rfl, rfl, rfl, rfl, rfl⟩, rfl, rfl⟩
  rcases h with ⟨k, h0, h1, h2, rfl, rfl, hr1, hr2⟩ | ⟨h0, rfl, rfl, rfl⟩
  · rcases h' with ⟨i', k', g1, g2, g3, g4, g5, rfl, e1, e2, e3⟩ | ⟨g1, -⟩
    · have e : i = i' := (nI_eq (by omega) (by omega)).mp (hy.symm.trans g2)
      subst e
      have e : k = k' := (nI_eq (by omega) (by omega)).mp (h1.symm.trans g4)
      subst e
      exact ⟨rfl, st_sig R hi h0 h2 hr1 hr2 e1 e2 e3 ho (agr_rf am al)⟩
    · exact absurd ⟨i, hi, hy, ⟨k, h0, h1⟩, h2⟩ g1
  · rcases h' with ⟨i', k', g1, g2, g3, g4, g5, -⟩ | ⟨g1, rfl, rfl, rfl, rfl⟩
    · have e : i = i' := (nI_eq (by omega) (by omega)).mp (hy.symm.trans g2)
      subst e
      exact absurd ⟨⟨k', g3, g4⟩, g5⟩ h0
    · refine ⟨rfl, ?_⟩
      rw [uA_id, uA_id, uJ_id, sgR_id, upR_id]
      exact R
/-- a row becomes current -/
def upC (ci : Nat → Option Nat) (j i : Nat) : Nat → Option Nat := fun q => if q = j then some i else ci q
theorem st_take (R : Rl kn nn fs fu fn fm pr ci rev fd am al) {i : Nat} (hi : i < nn) : Rl kn nn fs fu fn fm pr (upC ci ((pr i).1 17) i) rev fd (uA am 27 (upd (am 27) ((pr i).1 17) (nI i))) al := by
  obtain ⟨c1, c2, c3, hw, c5, c6, c7, c8, c9, c10, c11⟩ := R
  refine ⟨c1, c2, c3, hw, fun j hj => ?_, fun j k hk => ?_, c7, c8, c9, c10, c11⟩
  · show upd (am 27) ((pr i).1 17) (nI i) j = nw (upC ci ((pr i).1 17) i) j
    by_cases e : j = (pr i).1 17
    · rw [e, upd_self, nw_s (show upC ci ((pr i).1 17) i ((pr i).1 17) = some i from if_pos rfl)]
    · rw [upd_ne e, c5 j hj]
      unfold nw
      rw [show upC ci ((pr i).1 17) i j = ci j from if_neg e]
  · unfold upC at hk
    by_cases e : j = (pr i).1 17
    · rw [if_pos e] at hk; cases hk; exact ⟨hi, e.symm⟩
    · rw [if_neg e] at hk; exact c6 j k hk
theorem st_revoke (R : Rl kn nn fs fu fn fm pr ci rev fd am al) {y r r' rev2 e1 : Int32} (he : ¬ e1 = 0) {g5 : Nat → Int32} (h : (isN y kn ∧ (rev &&& (1 <<< (y &&& 31))) = 0 ∧ r = 1 ∧ rev2 = rev ||| (1 <<< (y &&& 31))) ∨ (¬ (isN y kn ∧ (rev &&& (1 <<< (y &&& 31))) = 0) ∧ r = 0 ∧ rev2 = rev)) (h' : (∃ k, k < kn ∧ y = nI k ∧ am 5 k = 0 ∧ r' = 1 ∧ g5 = upd (am 5) k e1) ∨ (¬ (∃ k, k < kn ∧ y = nI k ∧ am 5 k = 0) ∧ r' = 0 ∧ g5 = am 5)) : r = r' ∧ Rl kn nn fs fu fn fm pr ci rev2 fd (uA am 5 g5) al := by
  have R0 := R
  obtain ⟨c1, c2, c3, hw, c5, c6, c7, c8, c9, c10, c11⟩ := R
  rcases h with ⟨⟨k, h0, rfl⟩, h1, rfl, rfl⟩ | ⟨h0, rfl, rfl⟩
  · rcases h' with ⟨k', g1, g2, g3, rfl, rfl⟩ | ⟨g1, -⟩
    · have e : k = k' := (nI_eq (by omega) (by omega)).mp g2
      subst e
      refine ⟨rfl, c1, c2, c3, hw, c5, c6, fun q hq => ?_, c8, c9, c10, c11⟩
      show _ ↔ upd (am 5) k e1 q = 0
      rw [bit_or (by omega) (by omega)]
      by_cases e : k = q
      · subst e; rw [upd_self]; exact ⟨fun z => absurd rfl z.2, fun z => absurd z he⟩
      · rw [upd_ne (Ne.symm e)]; exact ⟨fun z => (c7 q hq).mp z.1, fun z => ⟨(c7 q hq).mpr z, e⟩⟩
    · exact absurd ⟨k, h0, rfl, (c7 k (by omega)).mp h1⟩ g1
  · rcases h' with ⟨k', g1, rfl, g3, -⟩ | ⟨g1, rfl, rfl⟩
    · exact absurd ⟨⟨k', g1, rfl⟩, (c7 k' (by omega)).mpr g3⟩ h0
    · refine ⟨rfl, ?_⟩
      rw [uA_id]; exact R0
theorem st_hash (R : Rl kn nn fs fu fn fm pr ci rev fd am al) {i : Nat} (hi : i < nn) {gd g31 : Nat → Int32} {am' : Nat → Nat → Int32} (ho : oth am am' al al) (hq : ∀ q, agr am am' al al q) (h : ∀ k, k < 8 → gd k = shaL (cB (pr i)) k) (h' : ∀ k, k < 32 → g31 k = mdB (shaUL (mB am al (fun q => (pr q).1) i)) k) : (cB (pr i)).length = (mB am al (fun q => (pr q).1) i).length ∧ Rl kn nn fs fu fn fm pr ci rev gd (uA am' 31 g31) al := by
  have R2 := Rl.scr R ho hq
  have w0 := (R.2.2.2.1 i hi).1
  have eB := mB_c (pq := fun q => (pr q).1) w0 rfl
  rw [eB] at h' ⊢
  refine ⟨by rw [List.length_map], ?_⟩
  obtain ⟨c1, c2, c3, hw, c5, c6, c7, c8, c9, c10, c11⟩ := R2
  refine ⟨c1, c2, c3, hw, c5, c6, c7, fun k hk => ?_, c9, c10, c11⟩
  show g31 k = mdB gd k
  rw [h' k hk]
  refine mdB_congr (fun j hj => ?_) hk
  rw [shaUL_c (by have := cB_le w0.1; omega) j hj, h j hj]
theorem st_digest (R : Rl kn nn fs fu fn fm pr ci rev fd am al) {k : Nat} (hk : k < 32) : by8 (am 31 k) = by8 (jus (fd (k / 4)) (nI (24 - 8 * (k % 4)))) := by
  rw [R.2.2.2.2.2.2.2.1 k hk]
  exact by8_and _
theorem st_about (R : Rl kn nn fs fu fn fm pr ci rev fd am al) {i : Nat} (hi : i < nn) (z : Int32) : abt z (nI ((pr i).1 17)) ((pr i).2.1 1) ((pr i).1 14) ((pr i).2.1 2) ((pr i).1 15) ((pr i).1 16) ((pr i).1 13) = mabt z (nI ((pr i).1 17)) (am 11 i) ((pr i).1 14) (mk (mHp am al (fun q => (pr q).1) i) kn) ((pr i).1 15) ((pr i).1 16) ((pr i).1 13) := by
  unfold abt mabt
  rw [← rk_c R hi, rkb_c R hi, (R.2.2.2.1 i hi).1.2.2.2.1.1]
theorem st_version (R : Rl kn nn fs fu fn fm pr ci rev fd am al) {y r r' : Int32} (h : (¬ isN y 10 ∧ r = -1) ∨ ∃ j, j < 10 ∧ y = nI j ∧ ((ci j = none ∧ r = 0) ∨ ∃ i, ci j = some i ∧ r = (pr i).2.1 1)) (h' : (¬ isN y 10 ∧ r' = -1) ∨ ∃ j, j < 10 ∧ y = nI j ∧ ((ci j = none ∧ r' = 0) ∨ ∃ i, ci j = some i ∧ r' = am 11 i)) : r = r' := by
  obtain ⟨-, -, -, hw, -, c6, -⟩ := R
  rcases h with ⟨h1, rfl⟩ | ⟨j, h1, h2, h3⟩
  · rcases h' with ⟨-, rfl⟩ | ⟨j', g1, g2, -⟩
    · rfl
    · exact absurd ⟨j', g1, g2⟩ h1
  · rcases h' with ⟨g1, -⟩ | ⟨j', g1, g2, g3⟩
    · exact absurd ⟨j, h1, h2⟩ g1
    · have e : j = j' := (nI_eq (by omega) (by omega)).mp (h2.symm.trans g2)
      subst e
      rcases h3 with ⟨a1, rfl⟩ | ⟨i, a1, rfl⟩ <;> rcases g3 with ⟨b1, rfl⟩ | ⟨i', b1, rfl⟩
      · rfl
      · rw [a1] at b1; cases b1
      · rw [a1] at b1; cases b1
      · rw [a1] at b1; cases b1
        exact ((hw i (c6 j i a1).1).1.2.2.2.1.1).symm
theorem st_current (R : Rl kn nn fs fu fn fm pr ci rev fd am al) {y r r' : Int32} (h : (¬ isN y 10 ∧ r = -1) ∨ ∃ j, j < 10 ∧ y = nI j ∧ ((ci j = none ∧ r = -1) ∨ ∃ i, ci j = some i ∧ r = (pr i).2.1 0)) (h' : (¬ isN y 10 ∧ r' = -1) ∨ ∃ j, j < 10 ∧ y = nI j ∧ r' = nw ci j) : r = r' := by
  obtain ⟨-, -, -, hw, -, c6, -⟩ := R
  rcases h with ⟨h1, rfl⟩ | ⟨j, h1, h2, h3⟩
  · rcases h' with ⟨-, rfl⟩ | ⟨j', g1, g2, -⟩
    · rfl
    · exact absurd ⟨j', g1, g2⟩ h1
  · rcases h' with ⟨g1, -⟩ | ⟨j', g1, g2, rfl⟩
    · exact absurd ⟨j, h1, h2⟩ g1
    · have e : j = j' := (nI_eq (by omega) (by omega)).mp (h2.symm.trans g2)
      subst e
      rcases h3 with ⟨a1, rfl⟩ | ⟨i, a1, rfl⟩
      · rw [nw_n a1]
      · rw [nw_s a1]; exact (hw i (c6 j i a1).1).1.2.1
/-- the start -/
theorem st_0 {gn : Nat → Int32} {pr : Nat → RowP} {am : Nat → Nat → Int32} {al : Nat → Nat → Int64} (h : ∀ k, k < 10 → gn k = 1) (h6 : ∀ k, k < 10 → am 6 k = 1 ∧ am 27 k = -1) (h32 : ∀ k, k < 8 → am 32 k = sFS k) (h33 : ∀ k, k < 64 → am 33 k = sRC k) (h0 : am 5 = (fun _ => 0) ∧ am 7 = (fun _ => 0) ∧ am 12 = (fun _ => 0) ∧ am 15 = (fun _ => 0) ∧ am 18 = (fun _ => 0) ∧ am 22 = (fun _ => 0) ∧ am 24 = (fun _ => 0) ∧ am 31 = (fun _ => 0)) : Rl 0 0 (fun _ => 0) (fun _ => 0) gn (fun _ => 0) pr (fun _ => none) 0 (fun _ => 0) am al := by
  obtain ⟨a5, a7, a12, a15, a18, a22, a24, a31⟩ := h0
  refine ⟨⟨by omega, by omega⟩, fun k hk => absurd hk (by omega), fun j hj => ⟨by rw [h j hj]; exact (h6 j hj).1, by rw [a7]⟩, fun i hi => absurd hi (by omega), fun j hj => (by rw [(h6 j hj).2]; rfl), fun j i hi => (by cases hi), fun k hk => (by rw [a5, Int32.zero_and]), fun k hk => ?_, h32, h33, fun i _ _ => (by rw [a12, a15, a18, a22, a24]; exact ⟨rfl, rfl, rfl, rfl, rfl⟩)⟩
  rw [a31, mdB_n]
  show (0 : Int32) = nI ((0 : Int32).toBitVec.toNat / _ % 256)
  rw [show (0 : Int32).toBitVec.toNat = 0 by decide, Nat.zero_div]
  rfl
end ST
