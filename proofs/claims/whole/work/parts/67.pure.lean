theorem shr_hs : ∀ n : Nat, n < 8 → ((nI (4 * n) &&& 31).toBitVec.smod 32).toNat = 4 * n := by decide
theorem shr_nI {N : Nat} (hN : N < 2 ^ 31) {n : Nat} (hn : n < 8) : nI N >>> (nI (4 * n) &&& 31) = nI (N / 2 ^ (4 * n)) := pk_shrN hN _ (4 * n) (shr_hs n hn)
theorem cnt_pos {v h : Int32} (hc : ¬ cnt v h = 0) : ∃ N : Nat, N < 16777216 ∧ v = nI N := by
  by_cases h1 : v ≤ 0
  · exact absurd (cnt_no1 h1) hc
  · by_cases h2 : v < 16777216
    · obtain ⟨N, -, h3, h4⟩ := cnt_N h1 h2
      exact ⟨N, h3, h4⟩
    · exact absurd (cnt_no2 h1 h2) hc
/-- part k of the pattern (from its head), as the reference compares it -/
def fpt (u v : Int32) (n t k : Nat) : Prop := ((u >>> (nI (4 * (n - 1 - k)) &&& 31)) &&& 15) = 15 ∨ ((u >>> (nI (4 * (n - 1 - k)) &&& 31)) &&& 15) = ((v >>> (nI (4 * (t - 1 - k)) &&& 31)) &&& 15)
def mft (u v : Int32) (n t k : Nat) : Prop := ∀ i, i < k → fpt u v n t i
theorem mft_t {u v : Int32} {n t k : Nat} (h : mft u v n t k) (h1 : fpt u v n t k) : mft u v n t (k + 1) := lt_s h h1
theorem mft_f {u v : Int32} {n t k : Nat} (h : ¬ mft u v n t k) : ¬ mft u v n t (k + 1) := fun g => h (fun i hi => g i (by omega))
theorem mft_g {u v : Int32} {n t k : Nat} (h : ¬ fpt u v n t k) : ¬ mft u v n t (k + 1) := fun g => h (g k (by omega))
theorem fit_iff {u v : Int32} (h : cnt u 15 ≤ cnt v 14) : mft u v (cnt u 15) (cnt v 14) (cnt u 15) ↔ fitP u v := by
  have hu := cnt_le u 15
  have hv := cnt_le v 14
  by_cases h0 : cnt u 15 = 0
  · constructor
    · intro _; exact ⟨h, fun n hn => absurd hn (by omega)⟩
    · intro _ i hi; exact absurd hi (by omega)
  · obtain ⟨U, hU, eU⟩ := cnt_pos h0
    obtain ⟨V, hV, eV⟩ := cnt_pos (v := v) (h := 14) (by omega)
    have key : ∀ n, n < cnt u 15 → (fpt u v (cnt u 15) (cnt v 14) (cnt u 15 - 1 - n) ↔ ((jus u (nI (n * 4)) &&& 15) = 15 ∨ (jus u (nI (n * 4)) &&& 15) = (jus (jus v (nI ((cnt v 14 - cnt u 15) * 4))) (nI (n * 4)) &&& 15))) := by
      intro n hn
      have e1 : cnt u 15 - 1 - (cnt u 15 - 1 - n) = n := by omega
      have e2 : cnt v 14 - 1 - (cnt u 15 - 1 - n) = (cnt v 14 - cnt u 15) + n := by omega
      unfold fpt
      rw [e1, e2]
      have hd : cnt v 14 - cnt u 15 + n < 8 := by omega
      generalize cnt v 14 - cnt u 15 = d at hd ⊢
      rw [eU, eV, shr_nI (by omega) (by omega), shr_nI (by omega) hd, jus_nI (by omega) (by omega), jus_nI (by omega) (by omega), jus_nI (Nat.lt_of_le_of_lt (Nat.div_le_self _ _) (by omega)) (by omega), Nat.div_div_eq_div_mul, ← Nat.pow_add, show d * 4 + n * 4 = 4 * (d + n) by omega, show n * 4 = 4 * n by omega]
    constructor
    · intro g
      exact ⟨h, fun n hn => (key n hn).mp (g _ (by omega))⟩
    · intro g i hi
      have := (key (cnt u 15 - 1 - i) (by omega)).mpr (g.2 _ (by omega))
      rwa [show cnt u 15 - 1 - (cnt u 15 - 1 - i) = i by omega] at this
/-- a row's picture out of the reference's arrays (as far as find looks) -/
def prM (am : Nat → Nat → Int32) (pq : Nat → Nat → Nat) (k : Nat) : RowP := (pq k, fun _ => 0, 0, fun a i => if a = 5 then am 19 (6 * k + i) else if a = 6 then am 20 (6 * k + i) else if a = 7 then am 21 (6 * k + i) else am 23 (6 * k + i))
/-- a frame of the reference's search: role, place i, roles searched m; at most d deeper -/
noncomputable def FR (ci : Nat → Option Nat) (P : Nat → RowP) (x : Int32) (d role i : Nat) (m : Int32) : Int32 × Int32 := match ci role with
  | none => (-1, m)
  | some k => pk2 (i = 0) (pk2 (∃ i, i < (P k).1 13 ∧ (P k).2.2.2 8 i = x) (nI role, m) (folF (srF ci P x d) (P k) x ((P k).1 16 - i) i m)) (pk2 (¬ (P k).2.2.2 7 (i - 1) = 0 ∧ fitP ((P k).2.2.2 5 (i - 1)) x) (-2, m) (folF (srF ci P x d) (P k) x ((P k).1 16 - i) i m))
/-- what the stack still gives -/
noncomputable def rem (ci : Nat → Option Nat) (P : Nat → RowP) (x : Int32) (fr fp : Nat → Nat) : Nat → Int32 → Int32
  | 0, _ => -1
  | j + 1, m => pk2 ((FR ci P x (9 - j) (fr j) (fp j) m).1 = -1) (rem ci P x fr fp j (FR ci P x (9 - j) (fr j) (fp j) m).2) (FR ci P x (9 - j) (fr j) (fp j) m).1
theorem rem_congr {ci : Nat → Option Nat} {P : Nat → RowP} {x : Int32} {fr fr' fp fp' : Nat → Nat} : ∀ {D : Nat}, (∀ j, j < D → fr j = fr' j ∧ fp j = fp' j) → ∀ m, rem ci P x fr fp D m = rem ci P x fr' fp' D m := by
  intro D
  induction D with
  | zero => intro _ m; rfl
  | succ D ih =>
    intro h m
    obtain ⟨h1, h2⟩ := h D (by omega)
    rw [rem, rem, h1, h2, ih (fun j hj => h j (by omega))]
def updN (f : Nat → Nat) (k v : Nat) (j : Nat) : Nat := if j = k then v else f j
theorem updN_s (f : Nat → Nat) (k v : Nat) : updN f k v k = v := if_pos rfl
theorem updN_n (f : Nat → Nat) {k v j : Nat} (h : j ≠ k) : updN f k v j = f j := if_neg h
section RM
variable {ci : Nat → Option Nat} {P : Nat → RowP} {x m : Int32} {fr fp : Nat → Nat} {j k : Nat}
theorem FR_s {d role i : Nat} (hk : ci role = some k) : FR ci P x d role i m = pk2 (i = 0) (pk2 (∃ i, i < (P k).1 13 ∧ (P k).2.2.2 8 i = x) (nI role, m) (folF (srF ci P x d) (P k) x ((P k).1 16 - i) i m)) (pk2 (¬ (P k).2.2.2 7 (i - 1) = 0 ∧ fitP ((P k).2.2.2 5 (i - 1)) x) (-2, m) (folF (srF ci P x d) (P k) x ((P k).1 16 - i) i m)) := by
  unfold FR
  rw [hk]
theorem rem_hit (hk : ci (fr j) = some k) (hr : fr j < 10) (h0 : fp j = 0) (hp : ∃ i, i < (P k).1 13 ∧ (P k).2.2.2 8 i = x) : rem ci P x fr fp (j + 1) m = nI (fr j) := by
  have e : FR ci P x (9 - j) (fr j) (fp j) m = (nI (fr j), m) := by rw [FR_s hk, pk2_t h0, pk2_t hp]
  rw [rem, e, pk2_f (nI_ne1 (by omega))]
theorem rem_over (hk : ci (fr j) = some k) (h0 : ¬ fp j = 0) (hp : ¬ (P k).2.2.2 7 (fp j - 1) = 0 ∧ fitP ((P k).2.2.2 5 (fp j - 1)) x) : rem ci P x fr fp (j + 1) m = -2 := by
  have e : FR ci P x (9 - j) (fr j) (fp j) m = (-2, m) := by rw [FR_s hk, pk2_f h0, pk2_t hp]
  rw [rem, e, pk2_f (show ¬ (-2 : Int32) = -1 by decide)]
/-- the frame goes on with its delegations -/
def goes (P : Nat → RowP) (x : Int32) (k i : Nat) : Prop := (i = 0 → ¬ ∃ i, i < (P k).1 13 ∧ (P k).2.2.2 8 i = x) ∧ (¬ i = 0 → ¬ (¬ (P k).2.2.2 7 (i - 1) = 0 ∧ fitP ((P k).2.2.2 5 (i - 1)) x))
theorem FR_go {d role i : Nat} (hk : ci role = some k) (hg : goes P x k i) : FR ci P x d role i m = folF (srF ci P x d) (P k) x ((P k).1 16 - i) i m := by
  rw [FR_s hk]
  by_cases h : i = 0
  · rw [pk2_t h, pk2_f (hg.1 h)]
  · rw [pk2_f h, pk2_f (hg.2 h)]
theorem rem_pop (hk : ci (fr j) = some k) (hg : goes P x k (fp j)) (he : ¬ fp j < (P k).1 16) : rem ci P x fr fp (j + 1) m = rem ci P x fr fp j m := by
  have e : FR ci P x (9 - j) (fr j) (fp j) m = (-1, m) := by rw [FR_go hk hg, fo_end he]
  rw [rem, e, pk2_t rfl]
theorem rem_up {i : Nat} : rem ci P x fr (updN fp j i) (j + 1) m = pk2 ((FR ci P x (9 - j) (fr j) i m).1 = -1) (rem ci P x fr fp j (FR ci P x (9 - j) (fr j) i m).2) (FR ci P x (9 - j) (fr j) i m).1 := by
  rw [rem, updN_s, rem_congr (fr' := fr) (fp' := fp) (fun q hq => ⟨rfl, updN_n fp (by omega)⟩)]
theorem FR_next {d role i : Nat} (hk : ci role = some k) : FR ci P x d role (i + 1) m = pk2 (¬ (P k).2.2.2 7 i = 0 ∧ fitP ((P k).2.2.2 5 i) x) (-2, m) (folF (srF ci P x d) (P k) x ((P k).1 16 - (i + 1)) (i + 1) m) := by
  rw [FR_s hk, pk2_f (by omega), show i + 1 - 1 = i by omega]
theorem rem_e {i : Nat} {m' : Int32} (e : FR ci P x (9 - j) (fr j) (fp j) m = FR ci P x (9 - j) (fr j) i m') : rem ci P x fr fp (j + 1) m = rem ci P x fr (updN fp j i) (j + 1) m' := by
  rw [rem_up, rem, e]
theorem rem_skip (hk : ci (fr j) = some k) (hg : goes P x k (fp j)) (hl : fp j < (P k).1 16) (hf : ¬ fitP ((P k).2.2.2 5 (fp j)) x) : rem ci P x fr fp (j + 1) m = rem ci P x fr (updN fp j (fp j + 1)) (j + 1) m := by
  refine rem_e ?_
  rw [FR_go hk hg, fo_skip hl hf, FR_next hk]
  exact (pk2_f (fun z => hf z.2)).symm
theorem rem_none {to : Nat} (hk : ci (fr j) = some k) (hg : goes P x k (fp j)) (hl : fp j < (P k).1 16) (hf : fitP ((P k).2.2.2 5 (fp j)) x) (ht : ((P k).2.2.2 6 (fp j)).toNatClampNeg = to) (ha : ansF (srF ci P x (9 - j)) to m = (-1, m)) : rem ci P x fr fp (j + 1) m = rem ci P x fr (updN fp j (fp j + 1)) (j + 1) m := by
  refine rem_e ?_
  rw [FR_go hk hg, FR_next hk]
  by_cases he : (P k).2.2.2 7 (fp j) = 0
  · rw [fo_next hl hf ht ha rfl he]
    exact (pk2_f (fun z => z.1 he)).symm
  · rw [fo_over hl hf ht ha rfl he]
    exact (pk2_t ⟨he, hf⟩).symm
theorem rem_in {to k' : Nat} (hj : j < 9) (hk : ci (fr j) = some k) (hg : goes P x k (fp j)) (hl : fp j < (P k).1 16) (hf : fitP ((P k).2.2.2 5 (fp j)) x) (ht : ((P k).2.2.2 6 (fp j)).toNatClampNeg = to) (hs : (m &&& (1 <<< (nI to &&& 31))) = 0) (hc : ci to = some k') : rem ci P x fr fp (j + 1) m = rem ci P x (updN fr (j + 1) to) (updN (updN fp j (fp j + 1)) (j + 1) 0) (j + 2) (m ||| (1 <<< (nI to &&& 31))) := by
  have ha : ansF (srF ci P x (9 - j)) to m = FR ci P x (9 - (j + 1)) to 0 (m ||| (1 <<< (nI to &&& 31))) := by
    rw [ansF, pk2_f (fun z => z hs), FR_s hc, pk2_t rfl, show 9 - j = (9 - (j + 1)) + 1 by omega]
    by_cases hp : ∃ i, i < (P k').1 13 ∧ (P k').2.2.2 8 i = x
    · rw [srF_hit _ hc hp, pk2_t hp]
    · rw [srF_go _ hc hp, pk2_f hp, Nat.sub_zero]
  have e2 : ∀ m', rem ci P x (updN fr (j + 1) to) (updN (updN fp j (fp j + 1)) (j + 1) 0) (j + 1) m' = rem ci P x fr (updN fp j (fp j + 1)) (j + 1) m' := fun m' => rem_congr (fun q hq => ⟨updN_n fr (by omega), updN_n _ (by omega)⟩) m'
  have e3 : ∀ m', rem ci P x (updN fr (j + 1) to) (updN (updN fp j (fp j + 1)) (j + 1) 0) (j + 2) m' = pk2 ((FR ci P x (9 - (j + 1)) to 0 m').1 = -1) (rem ci P x fr (updN fp j (fp j + 1)) (j + 1) (FR ci P x (9 - (j + 1)) to 0 m').2) (FR ci P x (9 - (j + 1)) to 0 m').1 := fun m' => by
    rw [← e2, show j + 2 = (j + 1) + 1 from rfl, rem, updN_s, updN_s]
  rw [e3]
  generalize FR ci P x (9 - (j + 1)) to 0 (m ||| (1 <<< (nI to &&& 31))) = a at ha
  by_cases h1 : a.1 = -1
  · rw [pk2_t h1]
    refine rem_e ?_
    rw [FR_go hk hg, FR_next hk]
    by_cases he : (P k).2.2.2 7 (fp j) = 0
    · rw [fo_next hl hf ht ha h1 he]
      exact (pk2_f (fun z => z.1 he)).symm
    · rw [fo_over hl hf ht ha h1 he]
      exact (pk2_t ⟨he, hf⟩).symm
  · have e : FR ci P x (9 - j) (fr j) (fp j) m = a := by rw [FR_go hk hg, fo_hit hl hf ht ha h1]
    rw [rem, e, pk2_f h1, pk2_f h1]
theorem rem_start (hc : ci 3 = some k) : rem ci P x (fun _ => 3) (fun _ => 0) 1 ((0 : Int32) ||| ((1 : Int32) <<< (nI 3 &&& 31))) = (srF ci P x 10 3 0).1 := by
  have e : srF ci P x 10 3 0 = FR ci P x 9 3 0 ((0 : Int32) ||| ((1 : Int32) <<< (nI 3 &&& 31))) := by
    rw [FR_s hc, pk2_t rfl]
    by_cases hp : ∃ i, i < (P k).1 13 ∧ (P k).2.2.2 8 i = x
    · rw [srF_hit 9 hc hp, pk2_t hp]
    · rw [srF_go 9 hc hp, pk2_f hp, Nat.sub_zero]
  rw [rem, show 9 - 0 = 9 from rfl, e]
  by_cases h1 : (FR ci P x 9 3 0 ((0 : Int32) ||| ((1 : Int32) <<< (nI 3 &&& 31)))).1 = -1
  · rw [pk2_t h1, rem, h1]
  · rw [pk2_f h1]
end RM
/-- how many of the first n are set -/
def cs (f : Nat → Int32) : Nat → Nat
  | 0 => 0
  | n + 1 => cs f n + if f n = 0 then 0 else 1
theorem cs_le (f : Nat → Int32) (n : Nat) : cs f n ≤ n := by
  induction n with
  | zero => exact Nat.le_refl 0
  | succ n ih => rw [cs]; split <;> omega
theorem cs_lt {f : Nat → Int32} {n k : Nat} (hk : k < n) (h : f k = 0) : cs f n < n := by
  induction n with
  | zero => omega
  | succ n ih =>
    rw [cs]
    by_cases e : k = n
    · subst e; rw [if_pos h]; have := cs_le f k; omega
    · have := ih (by omega); split <;> omega
theorem cs_upd_hi {f : Nat → Int32} {n k : Nat} {v : Int32} (hk : n ≤ k) : cs (upd f k v) n = cs f n := by
  induction n with
  | zero => rfl
  | succ n ih => rw [cs, cs, ih (by omega), upd_ne (by omega)]
theorem cs_upd {f : Nat → Int32} {n k : Nat} {v : Int32} (hk : k < n) (h : f k = 0) (hv : ¬ v = 0) : cs (upd f k v) n = cs f n + 1 := by
  induction n with
  | zero => omega
  | succ n ih =>
    rw [cs, cs]
    by_cases e : k = n
    · subst e; rw [cs_upd_hi (Nat.le_refl k), upd_self, if_neg hv, if_pos h]
    · rw [ih (by omega), upd_ne (by omega)]; omega
theorem cs_0 {f : Nat → Int32} {n : Nat} (h : ∀ k, k < n → f k = 0) : cs f n = 0 := by
  induction n with
  | zero => rfl
  | succ n ih => rw [cs, ih (fun k hk => h k (by omega)), if_pos (h n (by omega))]
/-- what the stack still costs -/
def stM (ci : Nat → Option Nat) (pq : Nat → Nat → Nat) (fr fp : Nat → Nat) : Nat → Nat
  | 0 => 0
  | j + 1 => stM ci pq fr fp j + ((match ci (fr j) with | none => 0 | some k => pq k 16 - fp j) + 1)
theorem stM_congr {ci : Nat → Option Nat} {pq : Nat → Nat → Nat} {fr fr' fp fp' : Nat → Nat} : ∀ {D : Nat}, (∀ j, j < D → fr j = fr' j ∧ fp j = fp' j) → stM ci pq fr fp D = stM ci pq fr' fp' D := by
  intro D
  induction D with
  | zero => intro _; rfl
  | succ D ih =>
    intro h
    obtain ⟨h1, h2⟩ := h D (by omega)
    rw [stM, stM, h1, h2, ih (fun j hj => h j (by omega))]
theorem stM_s {ci : Nat → Option Nat} {pq : Nat → Nat → Nat} {fr fp : Nat → Nat} {j k : Nat} (h : ci (fr j) = some k) : stM ci pq fr fp (j + 1) = stM ci pq fr fp j + (pq k 16 - fp j + 1) := by
  rw [stM, h]
theorem stM_up {ci : Nat → Option Nat} {pq : Nat → Nat → Nat} {fr fp : Nat → Nat} {j k i : Nat} (h : ci (fr j) = some k) : stM ci pq fr (updN fp j i) (j + 1) = stM ci pq fr fp j + (pq k 16 - i + 1) := by
  rw [stM_s h, updN_s, stM_congr (fr' := fr) (fp' := fp) (fun q hq => ⟨rfl, updN_n fp (by omega)⟩)]
theorem stM_in {ci : Nat → Option Nat} {pq : Nat → Nat → Nat} {fr fp : Nat → Nat} {j k i to k' : Nat} (h : ci (fr j) = some k) (h' : ci to = some k') : stM ci pq (updN fr (j + 1) to) (updN (updN fp j i) (j + 1) 0) (j + 2) = stM ci pq fr fp j + (pq k 16 - i + 1) + (pq k' 16 + 1) := by
  rw [show j + 2 = (j + 1) + 1 from rfl, stM_s (k := k') (by rw [updN_s]; exact h'), updN_s, stM_congr (fr' := fr) (fp' := updN fp j i) (fun q hq => ⟨updN_n fr (by omega), updN_n _ (by omega)⟩), stM_up h, Nat.sub_zero]
/-- the roles searched, as a set of bits and as an array -/
def bmk (m : Int32) (f : Nat → Int32) : Prop := ∀ k, k < 10 → ((m &&& (1 <<< (nI k &&& 31))) = 0 ↔ f k = 0)
theorem bit_ab : ∀ a : Nat, a < 32 → ∀ b : Nat, b < 32 → ((1 : Int32) <<< (nI a &&& 31)) &&& (1 <<< (nI b &&& 31)) = if a = b then (1 : Int32) <<< (nI b &&& 31) else 0 := by decide
theorem bit_n0 : ∀ b : Nat, b < 32 → ¬ ((1 : Int32) <<< (nI b &&& 31)) = 0 := by decide
theorem or_and (m a b : Int32) : (m ||| a) &&& b = (m &&& b) ||| (a &&& b) := by
  apply Int32.toBitVec_inj.mp
  simp only [Int32.toBitVec_and, Int32.toBitVec_or]
  apply BitVec.eq_of_getLsbD_eq
  intro i hi
  simp only [BitVec.getLsbD_and, BitVec.getLsbD_or]
  cases m.toBitVec.getLsbD i <;> cases a.toBitVec.getLsbD i <;> cases b.toBitVec.getLsbD i <;> rfl
theorem or_ne {a b : Int32} (h : ¬ b = 0) : ¬ (a ||| b) = 0 := by
  intro g
  apply h
  have e : (a ||| b) &&& b = b := by
    apply Int32.toBitVec_inj.mp
    simp only [Int32.toBitVec_and, Int32.toBitVec_or]
    apply BitVec.eq_of_getLsbD_eq
    intro i hi
    simp only [BitVec.getLsbD_and, BitVec.getLsbD_or]
    cases a.toBitVec.getLsbD i <;> cases b.toBitVec.getLsbD i <;> rfl
  rw [g, Int32.zero_and] at e
  exact e.symm
theorem bit_or {m : Int32} {a b : Nat} (ha : a < 32) (hb : b < 32) : ((m ||| (1 <<< (nI a &&& 31))) &&& (1 <<< (nI b &&& 31))) = 0 ↔ ((m &&& (1 <<< (nI b &&& 31))) = 0 ∧ ¬ a = b) := by
  rw [or_and, bit_ab a ha b hb]
  by_cases e : a = b
  · rw [if_pos e]
    exact ⟨fun g => absurd g (or_ne (bit_n0 b hb)), fun g => absurd e g.2⟩
  · rw [if_neg e, Int32.or_zero]
    exact ⟨fun g => ⟨g, e⟩, fun g => g.1⟩
theorem bmk_up {m : Int32} {f : Nat → Int32} {a : Nat} {v : Int32} (h : bmk m f) (ha : a < 10) (hv : ¬ v = 0) : bmk (m ||| (1 <<< (nI a &&& 31))) (upd f a v) := by
  intro k hk
  rw [bit_or (by omega) (by omega)]
  by_cases e : a = k
  · subst e
    rw [upd_self]
    exact ⟨fun g => absurd rfl g.2, fun g => absurd g hv⟩
  · rw [upd_ne (Ne.symm e)]
    exact ⟨fun g => (h k hk).mp g.1, fun g => ⟨(h k hk).mpr g, e⟩⟩
