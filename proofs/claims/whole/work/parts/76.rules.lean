/-! BRIDGES: the rules -/
/-- the signatures on row i and what else holds of every row -/
def rw1 (kn : Nat) (fs : Nat → Int64) (am : Nat → Nat → Int32) (al : Nat → Nat → Int64) (r : RowP) (i : Nat) : Prop :=
  (∀ j, j < r.1 14 → ∃ k, k < kn ∧ am 25 (12 * i + j) = nI k) ∧ r.2.1 2 = mk (fun k => ∃ j, j < r.1 14 ∧ am 25 (12 * i + j) = nI k ∧ al 26 (12 * i + j) = eight (shaL (bL (fs k) ++ cB r))) kn ∧
  (∀ j, j < r.1 15 → may (nI (r.1 17)) (r.2.2.2 3 j) ∧ ¬ r.2.2.2 4 j < 1) ∧ (∀ j k, j < k → k < r.1 15 → ¬ r.2.2.2 3 j = r.2.2.2 3 k) ∧ (∀ j, j < r.1 16 → isN (r.2.2.2 6 j) 10) ∧ ¬ r.2.1 1 < 1
theorem sig_c {am : Nat → Nat → Int32} {al : Nat → Nat → Int64} {pq : Nat → Nat → Nat} {r : RowP} {i : Nat} (h : rw0 am al r i) (hp : pq i = r.1) {k : Nat} {z : Int64} (hk : al 3 k = z) : mSig (uB8 (al 3 k) ++ mB am al pq i) = eight (shaL (bL z ++ cB r)) := by
  rw [mB_c h hp, hk, ← bL_u, ← List.map_append]
  refine mSig_c ?_
  have := cB_le h.1
  rw [List.length_append, bL_len]
  omega
theorem hp_c {kn : Nat} {fs : Nat → Int64} {am : Nat → Nat → Int32} {al : Nat → Nat → Int64} {pq : Nat → Nat → Nat} {r : RowP} {i : Nat} (h : rw0 am al r i) (hp : pq i = r.1) (hs : ∀ k, k < kn → al 3 k = fs k) : mk (fun k => ∃ j, j < r.1 14 ∧ am 25 (12 * i + j) = nI k ∧ al 26 (12 * i + j) = eight (shaL (bL (fs k) ++ cB r))) kn = mk (mHp am al pq i) kn := by
  refine mk_congr (fun k hk => ?_)
  unfold mHp hpk
  rw [hp, sig_c h hp (hs k hk)]
theorem bit0 {v : Int32} {k : Nat} (hk : k < 32) : (v &&& (1 <<< (nI k &&& 31))) = 0 ↔ v.toBitVec.getLsbD k = false := by
  constructor
  · intro h
    have g : (v &&& (1 <<< (nI k &&& 31))).toBitVec.getLsbD k = false := by rw [h]; simp
    rw [Int32.toBitVec_and, BitVec.getLsbD_and, gl_bit hk hk] at g
    simpa using g
  · intro h
    refine i32_ext (fun i hi => ?_)
    rw [Int32.toBitVec_and, BitVec.getLsbD_and, gl_bit hk hi]
    by_cases e : i = k
    · subst e; simp [h]
    · simp [e]
theorem quo_c {kn : Nat} (hkn : kn ≤ 20) {H : Nat → Prop} {a4 fu : Nat → Int64} {a5 : Nat → Int32} {rev M n : Int32} {t : Int64} (hu : ∀ k, k < kn → a4 k = fu k) (hr : ∀ k, k < 20 → ((rev &&& (1 <<< (nI k &&& 31))) = 0 ↔ a5 k = 0)) : (¬ btsI (msk (fun k => a4 k ≤ t ∨ ¬ a5 k = 0) (mk H kn &&& M) kn) 20 < n) ↔ ¬ jbc ((mk H kn &&& (livM kn fu t &&& (rev ^^^ (-1)))) &&& M) < n := by
  have e : msk (fun k => a4 k ≤ t ∨ ¬ a5 k = 0) (mk H kn &&& M) kn = (mk H kn &&& (livM kn fu t &&& (rev ^^^ (-1)))) &&& M := by
    refine i32_ext (fun i hi => ?_)
    rw [gl_msk (by omega) hi, Int32.toBitVec_and, BitVec.getLsbD_and, gl_mk (by omega) hi, Int32.toBitVec_and, BitVec.getLsbD_and, Int32.toBitVec_and, BitVec.getLsbD_and, gl_mk (by omega) hi, Int32.toBitVec_and, BitVec.getLsbD_and, gl_not hi, livM, gl_mk (by omega) hi]
    by_cases g : i < kn
    · have r0 := hr i (by omega)
      rw [bit0 hi] at r0
      rw [hu i g]
      by_cases x1 : H i <;> by_cases x2 : fu i ≤ t <;> by_cases x3 : a5 i = 0 <;> simp [g, x1, x2, x3, r0.mpr] 
      all_goals (have x4 := mt r0.mp x3; simp at x4; simp [x4])
    · simp [g]
  rw [e, jbc_bts (fun i h1 h2 => ?_)]
  rw [Int32.toBitVec_and, BitVec.getLsbD_and, Int32.toBitVec_and, BitVec.getLsbD_and, gl_mk (by omega) h2]
  simp [show ¬ i < kn by omega]
theorem la_iff {f g : Nat → Int32} {b : Nat} {x : Int32} : ∀ {n : Nat}, (∀ j, j < n → g (b + j) = f j) → (∀ j k, j < k → k < n → ¬ f j = f k) → ∀ j, lastAt g b x n = some j ↔ (j < n ∧ f j = x) := by
  intro n
  induction n with
  | zero => intro _ _ j; exact ⟨fun h => (by cases h), fun h => absurd h.1 (by omega)⟩
  | succ n ih =>
    intro h hd j
    rw [lastAt, h n (by omega)]
    by_cases e : f n = x
    · rw [if_pos e]
      constructor
      · intro g1; cases g1; exact ⟨by omega, e⟩
      · rintro ⟨g1, g2⟩
        by_cases q : j = n
        · rw [q]
        · exact absurd (g2.trans e.symm) (hd j n (by omega) (by omega))
    · rw [if_neg e, ih (fun j hj => h j (by omega)) (fun j k h1 h2 => hd j k h1 (by omega))]
      constructor
      · rintro ⟨g1, g2⟩; exact ⟨by omega, g2⟩
      · rintro ⟨g1, g2⟩
        refine ⟨?_, g2⟩
        rcases Nat.lt_or_ge j n with q | q
        · exact q
        · have : j = n := by omega
          subst this; exact absurd g2 e
theorem pl_of {f : Nat → Int32} {n : Nat} {x : Int32} (hd : ∀ j k, j < k → k < n → ¬ f j = f k) {j : Nat} (hj : j < n) (h : f j = x) : isPl f n x j := by
  refine ⟨by omega, fun k hk e => ?_, fun _ => h⟩
  exact hd k j hk hj (e.trans h.symm)
theorem tv_iff {f v : Nat → Int32} {n : Nat} {x : Int32} (hd : ∀ j k, j < k → k < n → ¬ f j = f k) {P : Int32 → Prop} (h0 : ¬ P 0) : (∃ j, isPl f n x j ∧ P (tv v n j)) ↔ ∃ j, (j < n ∧ f j = x) ∧ P (v j) := by
  constructor
  · rintro ⟨j, h1, h2⟩
    unfold tv at h2
    by_cases g : j < n
    · rw [if_pos g] at h2
      exact ⟨j, ⟨g, h1.2.2 g⟩, h2⟩
    · rw [if_neg g] at h2
      exact absurd h2 h0
  · rintro ⟨j, ⟨h1, h2⟩, h3⟩
    refine ⟨j, pl_of hd h1 h2, ?_⟩
    unfold tv
    rwa [if_pos h1]
/-- class and reference hold the same -/
def Rl (kn nn : Nat) (fs fu : Nat → Int64) (fn fm : Nat → Int32) (pr : Nat → RowP) (ci : Nat → Option Nat) (rev : Int32) (fd : Nat → Int32) (am : Nat → Nat → Int32) (al : Nat → Nat → Int64) : Prop :=
  (kn ≤ 20 ∧ nn ≤ 24) ∧ (∀ k, k < kn → al 3 k = fs k ∧ al 4 k = fu k) ∧ (∀ j, j < 10 → am 6 j = fn j ∧ am 7 j = fm j) ∧ (∀ i, i < nn → rw0 am al (pr i) i ∧ rw1 kn fs am al (pr i) i) ∧ (∀ j, j < 10 → am 27 j = nw ci j) ∧ (∀ j i, ci j = some i → i < nn ∧ (pr i).1 17 = j) ∧
  (∀ k, k < 20 → ((rev &&& (1 <<< (nI k &&& 31))) = 0 ↔ am 5 k = 0)) ∧ (∀ k, k < 32 → am 31 k = mdB fd k) ∧ (∀ k, k < 8 → am 32 k = sFS k) ∧ (∀ k, k < 64 → am 33 k = sRC k) ∧ (∀ i, nn ≤ i → i < 24 → am 12 i = 0 ∧ am 15 i = 0 ∧ am 18 i = 0 ∧ am 22 i = 0 ∧ am 24 i = 0)
theorem pick_c {p q : Prop} {a b c : Nat} (h : p ↔ q) (e : b = c) : pick p a b = pick q a c := by rw [propext h, e]
section RC
variable {kn nn : Nat} {fs fu : Nat → Int64} {fn fm : Nat → Int32} {pr : Nat → RowP} {ci : Nat → Option Nat} {rev : Int32} {fd : Nat → Int32} {am : Nat → Nat → Int32} {al : Nat → Nat → Int64}
theorem Rl.mok (R : Rl kn nn fs fu fn fm pr ci rev fd am al) : mOk nn am (fun q => (pr q).1) := by
  obtain ⟨-, -, -, hw, -⟩ := R
  intro q hq
  obtain ⟨⟨⟨k1, k2, k3, k4, k5, k6⟩, -, ⟨a1, a2, a3, a4, a5, a6⟩, -⟩, -⟩ := hw q hq
  exact ⟨a1, a2, a3, a4, a5, a6, k6, k1, k4, k5, k2, k3⟩
theorem qm_c (R : Rl kn nn fs fu fn fm pr ci rev fd am al) {t : Int64} {i k f : Nat} (hi : i < nn) (hk : k < nn) (h0 : (pr k).1 17 = 0) (hf : f = (pr i).1 17) : mQm kn am al (fun q => (pr q).1) t i f k ↔ qM rev (livM kn fu t) (pr i) (pr k) := by
  obtain ⟨⟨r1, r2⟩, hs, -, hw, -, -, hr, -⟩ := R
  obtain ⟨w0, w1⟩ := hw i hi
  obtain ⟨v0, v1⟩ := hw k hk
  subst hf
  have e89 := v0.2.2.2.2.2.1 h0 ((pr i).1 17) w0.1.2.2.2.2.2
  unfold mQm qM
  rw [w1.2.1, hp_c (pq := fun q => (pr q).1) w0 rfl (fun k hk => (hs k hk).1), e89.1, e89.2]
  exact quo_c r1 (fun k hk => (hs k hk).2) hr
theorem tol_c (R : Rl kn nn fs fu fn fm pr ci rev fd am al) {t : Int64} {i w : Nat} (hi : i < nn) : mTol ci am al (fun q => (pr q).1) t w i ↔ ∃ k, ci w = some k ∧ ¬ (pr k).2.2.1 ≤ t ∧ ∃ j, isPl ((pr k).2.2.2 3) ((pr k).1 15) (nI ((pr i).1 17)) j ∧ tv ((pr k).2.2.2 4) ((pr k).1 15) j = (pr i).2.1 1 := by
  obtain ⟨-, -, -, hw, -, hc, -⟩ := R
  obtain ⟨w0, w1⟩ := hw i hi
  have hv : ¬ (0 : Int32) = (pr i).2.1 1 := fun e => w1.2.2.2.2.2 (by rw [← e]; decide)
  unfold mTol
  have key : ∀ k, ci w = some k → ((∃ j, lastAt (am 16) (7 * k) (nI ((pr i).1 17)) ((pr k).1 15) = some j ∧ am 17 (7 * k + j) = am 11 i) ↔ ∃ j, isPl ((pr k).2.2.2 3) ((pr k).1 15) (nI ((pr i).1 17)) j ∧ tv ((pr k).2.2.2 4) ((pr k).1 15) j = (pr i).2.1 1) := by
    intro k hk
    obtain ⟨v0, v1⟩ := hw k (hc w k hk).1
    rw [tv_iff (P := fun z => z = (pr i).2.1 1) v1.2.2.2.1 hv]
    have ht := v0.2.2.2.2.2.2.1
    constructor
    · rintro ⟨j, g1, g2⟩
      have g3 := (la_iff (fun j hj => (ht j hj).1) v1.2.2.2.1 j).mp g1
      exact ⟨j, g3, by rw [← (ht j g3.1).2, g2, w0.2.2.2.1.1]⟩
    · rintro ⟨j, g1, g2⟩
      exact ⟨j, (la_iff (fun j hj => (ht j hj).1) v1.2.2.2.1 j).mpr g1, by rw [(ht j g1.1).2, g2, w0.2.2.2.1.1]⟩
  constructor
  · rintro ⟨k, h1, h2, h3⟩
    have v0 := (hw k (hc w k h1).1).1
    exact ⟨k, h1, by rw [← v0.2.2.2.1.2]; exact h2, (key k h1).mp h3⟩
  · rintro ⟨k, h1, h2, h3⟩
    have v0 := (hw k (hc w k h1).1).1
    exact ⟨k, h1, by rw [v0.2.2.2.1.2]; exact h2, (key k h1).mpr h3⟩
/-- both find the same rule broken -/
theorem rule_c (R : Rl kn nn fs fu fn fm pr ci rev fd am al) {t : Int64} {i : Nat} (hi : i < nn) : mrl kn ci am al (fun q => (pr q).1) t i = fbr ci pr rev (livM kn fu t) t i := by
  have R0 := R
  obtain ⟨-, -, -, hw, -, hc, -⟩ := R
  obtain ⟨w0, w1⟩ := hw i hi
  have e11 := w0.2.2.2.1.1
  have k17 := w0.1.2.2.2.2.2
  have hv1 := w1.2.2.2.2.2
  have cur : ∀ {j k}, ci j = some k → k < nn ∧ (pr k).1 17 = j ∧ am 11 k = (pr k).2.1 1 ∧ al 14 k = (pr k).2.2.1 := fun {j k} h => ⟨(hc j k h).1, (hc j k h).2, (hw k (hc j k h).1).1.2.2.2.1.1, (hw k (hc j k h).1).1.2.2.2.1.2⟩
  have halv : mAlv ci al t ↔ alvP ci pr t := by
    unfold mAlv alvP
    constructor
    · rintro ⟨k, h1, h2⟩; exact ⟨k, h1, by rw [← (cur h1).2.2.2]; exact h2⟩
    · rintro ⟨k, h1, h2⟩; exact ⟨k, h1, by rw [(cur h1).2.2.2]; exact h2⟩
  unfold mrl fbr
  refine pick_c (and_congr Iff.rfl (not_congr halv)) (pick_c (not_congr ?_) (pick_c ?_ (pick_c (not_congr ?_) (pick_c ?_ (pick_c (not_congr ?_) (pick_c (not_congr ?_) rfl))))))
  · unfold qumP
    exact ⟨fun h k hk => (qm_c R0 hi (cur hk).1 (cur hk).2.1 rfl).mp (h k hk), fun h k hk => (qm_c R0 hi (cur hk).1 (cur hk).2.1 rfl).mpr (h k hk)⟩
  · constructor
    · rintro ⟨h1, h2⟩; exact ⟨h1, fun g => h2 ((qm_c R0 hi hi h1 h1.symm).mpr g)⟩
    · rintro ⟨h1, h2⟩; exact ⟨h1, fun g => h2 ((qm_c R0 hi hi h1 h1.symm).mp g)⟩
  · unfold mFol folP
    by_cases z : (pr i).1 17 = 0
    · constructor
      · rintro ⟨h1, -⟩ k hk
        refine ⟨fun _ => ?_, fun g => absurd z g⟩
        have hk0 : ci 0 = some k := by rw [z] at hk; exact hk
        have := h1 z k hk0
        rwa [mWas_s hk, e11, (cur hk).2.2.1] at this
      · intro h
        refine ⟨fun _ k hk => ?_, fun g => absurd z g⟩
        have hk1 : ci ((pr i).1 17) = some k := by rw [z]; exact hk
        have := (h k hk1).1 z
        rw [mWas_s hk1, e11, (cur hk).2.2.1]
        exact this
    · constructor
      · rintro ⟨-, h1⟩ k hk
        refine ⟨fun g => absurd g z, fun _ => ?_⟩
        have := h1 z
        rw [mWas_s hk, e11, (cur hk).2.2.1] at this
        exact Int32.not_lt.mpr this
      · intro h
        refine ⟨fun g => absurd g z, fun _ => ?_⟩
        cases hk : ci ((pr i).1 17) with
        | none =>
          rw [mWas_n hk, e11]
          have h2 := Int32.not_lt.mp hv1
          exact Int32.le_trans (show (0 : Int32) ≤ 1 by decide) h2
        | some k =>
          rw [mWas_s hk, e11, (cur hk).2.2.1]
          exact Int32.not_lt.mp ((h k hk).2 z)
  · rw [w0.2.2.2.1.2]
  · unfold mT7 tolP
    show ((pr i).1 17 = 2 → _) ∧ (¬ (pr i).1 17 < 3 → _) ↔ _
    rw [tol_c R0 hi, tol_c R0 hi]
    by_cases z0 : (pr i).1 17 = 0
    · exact ⟨fun _ => Or.inl z0, fun _ => ⟨fun g => absurd g (by omega), fun g => absurd g (by omega)⟩⟩
    · by_cases z1 : (pr i).1 17 = 1
      · exact ⟨fun _ => Or.inr (Or.inl z1), fun _ => ⟨fun g => absurd g (by omega), fun g => absurd g (by omega)⟩⟩
      · by_cases z2 : (pr i).1 17 = 2
        · rw [if_pos z2]
          exact ⟨fun h => Or.inr (Or.inr (h.1 z2)), fun h => ⟨fun _ => (h.resolve_left z0).resolve_left z1, fun g => absurd g (by omega)⟩⟩
        · rw [if_neg z2]
          exact ⟨fun h => Or.inr (Or.inr (h.2 (by omega))), fun h => ⟨fun g => absurd g z2, fun _ => (h.resolve_left z0).resolve_left z1⟩⟩
  · unfold mK8 kepP
    have key : ∀ k, ci 2 = some k → (mGo am (fun q => (pr q).1) k i ((pr k).1 15) ↔ ∀ m, m < (pr k).1 15 → kOf ((pr i).2.2.2 3) ((pr i).2.2.2 4) ((pr i).1 15) ((pr k).2.2.2 3 m) ((pr k).2.2.2 4 m)) := by
      intro k hk
      obtain ⟨v0, v1⟩ := hw k (cur hk).1
      have ht := w0.2.2.2.2.2.2.1
      have hu := v0.2.2.2.2.2.2.1
      unfold mGo
      have k2 : ∀ m, m < (pr k).1 15 → (mGo1 am (fun q => (pr q).1) k i m ↔ kOf ((pr i).2.2.2 3) ((pr i).2.2.2 4) ((pr i).1 15) ((pr k).2.2.2 3 m) ((pr k).2.2.2 4 m)) := by
        intro m hm
        unfold mGo1 kOf
        rw [tv_iff (P := fun z => (pr k).2.2.2 4 m ≤ z) w1.2.2.2.1 (fun g => (v1.2.2.1 m hm).2 (Int32.lt_of_le_of_lt g (by decide)))]
        show (∃ j, lastAt (am 16) (7 * i) (am 16 (7 * k + m)) ((pr i).1 15) = some j ∧ _) ↔ _
        rw [(hu m hm).1, (hu m hm).2]
        constructor
        · rintro ⟨j, g1, g2⟩
          have g3 := (la_iff (fun j hj => (ht j hj).1) w1.2.2.2.1 j).mp g1
          rw [(ht j g3.1).2] at g2
          exact ⟨j, g3, Int32.not_lt.mp g2⟩
        · rintro ⟨j, g1, g2⟩
          refine ⟨j, (la_iff (fun j hj => (ht j hj).1) w1.2.2.2.1 j).mpr g1, ?_⟩
          rw [(ht j g1.1).2]
          exact Int32.not_lt.mpr g2
      exact ⟨fun h m hm => (k2 m hm).mp (h m hm), fun h m hm => (k2 m hm).mpr (h m hm)⟩
    exact ⟨fun h z k hk => (key k hk).mp (h z k hk), fun h z k hk => (key k hk).mpr (h z k hk)⟩
end RC
/-! BRIDGES: find, about, tells -/
theorem folF_congr {S : Nat → Int32 → Int32 × Int32} {r r' : RowP} {x : Int32} : ∀ (l i : Nat) (m : Int32), (∀ j, i ≤ j → j < i + l → r.2.2.2 5 j = r'.2.2.2 5 j ∧ r.2.2.2 6 j = r'.2.2.2 6 j ∧ r.2.2.2 7 j = r'.2.2.2 7 j) → folF S r x l i m = folF S r' x l i m := by
  intro l
  induction l with
  | zero => intro i m _; rfl
  | succ l ih =>
    intro i m h
    obtain ⟨h1, h2, h3⟩ := h i (Nat.le_refl _) (by omega)
    have e : ∀ m, folF S r x l (i + 1) m = folF S r' x l (i + 1) m := fun m => ih (i + 1) m (fun j g1 g2 => h j (by omega) (by omega))
    rw [folF, folF, h1, h2, h3, e, e]
theorem srF_congr {ci : Nat → Option Nat} {P P' : Nat → RowP} {x : Int32} (h : ∀ j k, ci j = some k → (P k).1 13 = (P' k).1 13 ∧ (P k).1 16 = (P' k).1 16 ∧ (∀ i, i < (P k).1 13 → (P k).2.2.2 8 i = (P' k).2.2.2 8 i) ∧ ∀ i, i < (P k).1 16 → (P k).2.2.2 5 i = (P' k).2.2.2 5 i ∧ (P k).2.2.2 6 i = (P' k).2.2.2 6 i ∧ (P k).2.2.2 7 i = (P' k).2.2.2 7 i) : ∀ (d role : Nat) (m : Int32), srF ci P x d role m = srF ci P' x d role m := by
  intro d
  induction d with
  | zero => intro _ _; rfl
  | succ d ih =>
    intro role m
    have e : srF ci P x d = srF ci P' x d := by funext a b; exact ih a b
    cases hc : ci role with
    | none => rw [srF_none hc, srF_none hc]
    | some k =>
      obtain ⟨h1, h2, h3, h4⟩ := h role k hc
      have hp : (∃ i, i < (P k).1 13 ∧ (P k).2.2.2 8 i = x) ↔ ∃ i, i < (P' k).1 13 ∧ (P' k).2.2.2 8 i = x := by
        constructor
        · rintro ⟨i, g1, g2⟩; exact ⟨i, by omega, by rw [← h3 i g1]; exact g2⟩
        · rintro ⟨i, g1, g2⟩; exact ⟨i, by omega, by rw [h3 i (by omega)]; exact g2⟩
      by_cases g : ∃ i, i < (P k).1 13 ∧ (P k).2.2.2 8 i = x
      · rw [srF_hit d hc g, srF_hit d hc (hp.mp g)]
      · rw [srF_go d hc g, srF_go d hc (fun z => g (hp.mpr z)), e, ← h2]
        exact folF_congr _ _ _ (fun j _ g2 => h4 j (by omega))
section RC
variable {kn nn : Nat} {fs fu : Nat → Int64} {fn fm : Nat → Int32} {pr : Nat → RowP} {ci : Nat → Option Nat} {rev : Int32} {fd : Nat → Int32} {am : Nat → Nat → Int32} {al : Nat → Nat → Int64}
theorem find_c (R : Rl kn nn fs fu fn fm pr ci rev fd am al) (x : Int32) : srF ci (prM am (fun q => (pr q).1)) x 10 3 0 = srF ci pr x 10 3 0 := by
  obtain ⟨-, -, -, hw, -, hc, -⟩ := R
  refine srF_congr (fun j k hk => ?_) 10 3 0
  obtain ⟨v0, -⟩ := hw k (hc j k hk).1
  refine ⟨rfl, rfl, fun i hi => v0.2.2.2.2.2.2.2.2 i hi, fun i hi => v0.2.2.2.2.2.2.2.1 i hi⟩
theorem to_c (R : Rl kn nn fs fu fn fm pr ci rev fd am al) : ∀ k, k < nn → ∀ i, i < (pr k).1 16 → isN ((pr k).2.2.2 6 i) 10 := fun k hk i hi => (R.2.2.2.1 k hk).2.2.2.2.2.1 i hi
theorem toM_c (R : Rl kn nn fs fu fn fm pr ci rev fd am al) : ∀ k, k < nn → ∀ i, i < (pr k).1 16 → isN (am 20 (6 * k + i)) 10 := fun k hk i hi => by
  rw [((R.2.2.2.1 k hk).1.2.2.2.2.2.2.2.1 i hi).2.1]
  exact to_c R k hk i hi
theorem rk_c (R : Rl kn nn fs fu fn fm pr ci rev fd am al) {i : Nat} (hi : i < nn) : (pr i).2.1 2 = mk (mHp am al (fun q => (pr q).1) i) kn := by
  obtain ⟨-, hs, -, hw, -⟩ := R
  obtain ⟨w0, w1⟩ := hw i hi
  rw [w1.2.1, hp_c (pq := fun q => (pr q).1) w0 rfl (fun k hk => (hs k hk).1)]
theorem rkb_c (R : Rl kn nn fs fu fn fm pr ci rev fd am al) {i : Nat} (hi : i < nn) : jbc ((pr i).2.1 2) = btsI ((pr i).2.1 2) 20 := by
  have r1 := R.1.1
  rw [rk_c R hi]
  refine jbc_bts (fun j h1 h2 => ?_)
  rw [gl_mk (by omega) h2]
  simp [show ¬ j < kn by omega]
end RC
/-- more numbers than places: two are the same -/
theorem pigeon : ∀ (m : Nat) (f : Nat → Nat), (∀ j, j < m + 1 → f j < m) → ∃ i j, i < j ∧ j < m + 1 ∧ f i = f j := by
  intro m
  induction m with
  | zero => intro f h; exact absurd (h 0 (by omega)) (by omega)
  | succ m ih =>
    intro f h
    by_cases hx : ∃ i, i < m + 1 ∧ f i = f (m + 1)
    · obtain ⟨i, h1, h2⟩ := hx
      exact ⟨i, m + 1, h1, by omega, h2⟩
    · have hn : ∀ i, i < m + 1 → ¬ f i = f (m + 1) := fun i h1 h2 => hx ⟨i, h1, h2⟩
      obtain ⟨i, j, h1, h2, h3⟩ := ih (fun i => if f i = m then f (m + 1) else f i) (fun j hj => by
        have a := h j (by omega)
        have b := h (m + 1) (by omega)
        have c := hn j hj
        show (if f j = m then f (m + 1) else f j) < m
        by_cases g : f j = m
        · rw [if_pos g]; omega
        · rw [if_neg g]; omega)
      refine ⟨i, j, h1, by omega, ?_⟩
      have a := hn i (by omega)
      have b := hn j (by omega)
      have h3 : (if f i = m then f (m + 1) else f i) = (if f j = m then f (m + 1) else f j) := h3
      by_cases g1 : f i = m
      · rw [if_pos g1] at h3
        by_cases g2 : f j = m
        · omega
        · rw [if_neg g2] at h3; omega
      · rw [if_neg g1] at h3
        by_cases g2 : f j = m
        · rw [if_pos g2] at h3; omega
        · rw [if_neg g2] at h3; omega
theorem may_n {role : Nat} {x : Int32} (h : may (nI role) x) : ∃ d, d < 7 ∧ (x = nI (d + 3) ∨ (x = 2 ∧ d = 0 ∧ role % 2 ^ 32 = 1)) := by
  unfold may at h
  by_cases g : nI role = 1
  · rw [if_pos g] at h
    refine ⟨0, by omega, Or.inr ⟨h, rfl, ?_⟩⟩
    have := congrArg (fun z : Int32 => z.toBitVec.toNat) g
    exact this
  · rw [if_neg g] at h
    obtain ⟨j, hj, e⟩ := in_t 10 (fun z => h.2.1 (Int32.lt_trans z (by decide))) h.2.2 (by omega)
    have h3 : 3 ≤ j := by
      rcases Nat.lt_or_ge j 3 with q | q
      · exact absurd (show x < 3 by rw [e]; exact nI_lt (b := 3) q (by omega)) h.2.1
      · exact q
    exact ⟨j - 3, by omega, Or.inl (by rw [e]; congr 1; omega)⟩
theorem told7 {role n : Nat} {f : Nat → Int32} {x : Int32} (hn : n ≤ 7) (hf : ∀ j, j < n → may (nI role) (f j)) (hd : ∀ j k, j < k → k < n → ¬ f j = f k) (hx : may (nI role) x) (hnew : ∀ j, j < n → ¬ f j = x) : n < 7 := by
  rcases Nat.lt_or_ge n 7 with g | g
  · exact g
  · exfalso
    have e : n = 7 := by omega
    subst e
    have hh : ∀ j, ∃ d, j < 8 → d < 7 ∧ ((if j < 7 then f j else x) = nI (d + 3) ∨ ((if j < 7 then f j else x) = 2 ∧ d = 0 ∧ role % 2 ^ 32 = 1)) := by
      intro j
      by_cases g1 : j < 7
      · obtain ⟨d, h1, h2⟩ := may_n (hf j g1)
        exact ⟨d, fun _ => ⟨h1, by rw [if_pos g1]; exact h2⟩⟩
      · obtain ⟨d, h1, h2⟩ := may_n hx
        exact ⟨d, fun _ => ⟨h1, by rw [if_neg g1]; exact h2⟩⟩
    obtain ⟨i, j, h1, h2, h3⟩ := pigeon 7 (fun j => (hh j).choose) (fun j hj => ((hh j).choose_spec hj).1)
    have a := ((hh i).choose_spec (by omega)).2
    have b := ((hh j).choose_spec (by omega)).2
    have h3 : (hh i).choose = (hh j).choose := h3
    rw [← h3] at b
    generalize (hh i).choose = d at a b
    have hne : ¬ (if i < 7 then f i else x) = (if j < 7 then f j else x) := by
      rw [if_pos (show i < 7 by omega)]
      by_cases g1 : j < 7
      · rw [if_pos g1]; exact hd i j h1 g1
      · rw [if_neg g1]; exact hnew i (by omega)
    rcases a with a | a <;> rcases b with b | b
    · exact hne (a.trans b.symm)
    · have := hx
      unfold may at this
      have g : nI role = 1 := by
        apply Int32.toBitVec_inj.mp
        apply BitVec.eq_of_toNat_eq
        exact b.2.2
      have e1 := hf i (by omega)
      unfold may at e1
      rw [if_pos g] at e1
      rw [if_pos (show i < 7 by omega), e1] at a
      rw [b.2.1] at a
      exact absurd a (by decide)
    · have g : nI role = 1 := by
        apply Int32.toBitVec_inj.mp
        apply BitVec.eq_of_toNat_eq
        exact a.2.2
      have e1 : (if j < 7 then f j else x) = 2 := by
        by_cases g1 : j < 7
        · rw [if_pos g1]; have := hf j g1; unfold may at this; rwa [if_pos g] at this
        · rw [if_neg g1]; have := hx; unfold may at this; rwa [if_pos g] at this
      rw [e1, a.2.1] at b
      exact absurd b (by decide)
    · exact hne (a.1.trans b.1.symm)
theorem la_none {f g : Nat → Int32} {b : Nat} {x : Int32} {n : Nat} (h : ∀ j, j < n → g (b + j) = f j) (hd : ∀ j k, j < k → k < n → ¬ f j = f k) : lastAt g b x n = none ↔ ∀ j, j < n → ¬ f j = x := by
  constructor
  · intro e j hj he
    have := (la_iff (x := x) h hd j).mpr ⟨hj, he⟩
    rw [e] at this; cases this
  · intro e
    cases hc : lastAt g b x n with
    | none => rfl
    | some j => have := (la_iff h hd j).mp hc; exact absurd this.2 (e j this.1)
