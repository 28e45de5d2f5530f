/-! STEPS: what a call does to both -/
def uA (am : Nat → Nat → Int32) (k : Nat) (g : Nat → Int32) : Nat → Nat → Int32 := fun a => if a = k then g else am a
def uJ (al : Nat → Nat → Int64) (k : Nat) (g : Nat → Int64) : Nat → Nat → Int64 := fun a => if a = k then g else al a
def upR (pr : Nat → RowP) (i : Nat) (r : RowP) : Nat → RowP := fun q => if q = i then r else pr q
theorem upR_s (pr : Nat → RowP) (i : Nat) (r : RowP) : upR pr i r i = r := if_pos rfl
theorem upR_n (pr : Nat → RowP) {i q : Nat} (r : RowP) (h : q ≠ i) : upR pr i r q = pr q := if_neg h
theorem vp_us {f : Nat → Int64} {k : Nat} {x : Int64} : vp_updL f k x k = x := if_pos rfl
theorem vp_un {f : Nat → Int64} {k j : Nat} {x : Int64} (h : j ≠ k) : vp_updL f k x j = f j := if_neg h
/-- two states of the reference's arrays agree on row q -/
def agr (am am' : Nat → Nat → Int32) (al al' : Nat → Nat → Int64) (q : Nat) : Prop :=
  (am' 10 q = am 10 q ∧ am' 11 q = am 11 q ∧ am' 12 q = am 12 q ∧ am' 15 q = am 15 q ∧ am' 18 q = am 18 q ∧ am' 22 q = am 22 q ∧ am' 24 q = am 24 q ∧ al' 14 q = al 14 q) ∧ (∀ j, j < 16 → am' 13 (16 * q + j) = am 13 (16 * q + j)) ∧ (∀ j, j < 10 → am' 8 (10 * q + j) = am 8 (10 * q + j) ∧ am' 9 (10 * q + j) = am 9 (10 * q + j)) ∧
  (∀ j, j < 7 → am' 16 (7 * q + j) = am 16 (7 * q + j) ∧ am' 17 (7 * q + j) = am 17 (7 * q + j)) ∧ (∀ j, j < 6 → am' 19 (6 * q + j) = am 19 (6 * q + j) ∧ am' 20 (6 * q + j) = am 20 (6 * q + j) ∧ am' 21 (6 * q + j) = am 21 (6 * q + j) ∧ am' 23 (6 * q + j) = am 23 (6 * q + j)) ∧ (∀ j, j < 12 → am' 25 (12 * q + j) = am 25 (12 * q + j) ∧ al' 26 (12 * q + j) = al 26 (12 * q + j))
theorem rw_agr {kn : Nat} {fs : Nat → Int64} {am am' : Nat → Nat → Int32} {al al' : Nat → Nat → Int64} {r : RowP} {q : Nat} (h : agr am am' al al' q) (hw : rw0 am al r q ∧ rw1 kn fs am al r q) : rw0 am' al' r q ∧ rw1 kn fs am' al' r q := by
  obtain ⟨⟨a1, a2, a3, a4, a5, a6, a7, a8⟩, b, c, d, e, f⟩ := h
  obtain ⟨⟨⟨k1, k2, k3, k4, k5, k6⟩, n1, ⟨m1, m2, m3, m4, m5, m6⟩, ⟨v1, v2⟩, w1, w2, w3, w4, w5⟩, x1, x2, x3⟩ := hw
  refine ⟨⟨⟨k1, k2, k3, k4, k5, k6⟩, n1, ⟨a1.trans m1, a3.trans m2, a4.trans m3, a5.trans m4, a6.trans m5, a7.trans m6⟩, ⟨a2.trans v1, a8.trans v2⟩, fun j hj => (b j (by omega)).trans (w1 j hj), fun h0 j hj => ⟨(c j hj).1.trans (w2 h0 j hj).1, (c j hj).2.trans (w2 h0 j hj).2⟩, fun j hj => ⟨(d j (by omega)).1.trans (w3 j hj).1, (d j (by omega)).2.trans (w3 j hj).2⟩, fun j hj => ⟨(e j (by omega)).1.trans (w4 j hj).1, (e j (by omega)).2.1.trans (w4 j hj).2.1, (e j (by omega)).2.2.1.trans (w4 j hj).2.2⟩, fun j hj => (e j (by omega)).2.2.2.trans (w5 j hj)⟩, fun j hj => ?_, ?_, x3⟩
  · rw [(f j (by omega)).1]; exact x1 j hj
  · rw [x2]
    refine mk_congr (fun k hk => ?_)
    constructor
    · rintro ⟨j, h1, h2, h3⟩; exact ⟨j, h1, (f j (by omega)).1.trans h2, (f j (by omega)).2.trans h3⟩
    · rintro ⟨j, h1, h2, h3⟩; exact ⟨j, h1, (f j (by omega)).1.symm.trans h2, (f j (by omega)).2.symm.trans h3⟩
theorem agr_rf (am : Nat → Nat → Int32) (al : Nat → Nat → Int64) (q : Nat) : agr am am al al q := ⟨⟨rfl, rfl, rfl, rfl, rfl, rfl, rfl, rfl⟩, fun _ _ => rfl, fun _ _ => ⟨rfl, rfl⟩, fun _ _ => ⟨rfl, rfl⟩, fun _ _ => ⟨rfl, rfl, rfl, rfl⟩, fun _ _ => ⟨rfl, rfl⟩⟩
section ST
variable {kn nn : Nat} {fs fu : Nat → Int64} {fn fm : Nat → Int32} {pr : Nat → RowP} {ci : Nat → Option Nat} {rev : Int32} {fd : Nat → Int32} {am : Nat → Nat → Int32} {al : Nat → Nat → Int64}
/-- the reference's other arrays (all that Rl looks at, rows aside) are the same -/
def oth (am am' : Nat → Nat → Int32) (al al' : Nat → Nat → Int64) : Prop := (am' 5 = am 5 ∧ am' 6 = am 6 ∧ am' 7 = am 7 ∧ am' 27 = am 27 ∧ am' 31 = am 31 ∧ am' 32 = am 32 ∧ am' 33 = am 33) ∧ al' 3 = al 3 ∧ al' 4 = al 4
theorem Rl.row1 (R : Rl kn nn fs fu fn fm pr ci rev fd am al) {i : Nat} {r : RowP} {am' : Nat → Nat → Int32} {al' : Nat → Nat → Int64} (ho : oth am am' al al') (hin : i < nn) (hq : ∀ q, q ≠ i → agr am am' al al' q) (hr : r.1 17 = (pr i).1 17) (hi : rw0 am' al' r i ∧ rw1 kn fs am' al' r i) : Rl kn nn fs fu fn fm (upR pr i r) ci rev fd am' al' := by
  obtain ⟨c1, c2, c3, hw, c5, c6, c7, c8, c9, c10, c11⟩ := R
  obtain ⟨⟨o5, o6, o7, o27, o31, o32, o33⟩, o3, o4⟩ := ho
  refine ⟨c1, by rw [o3, o4]; exact c2, by rw [o6, o7]; exact c3, fun q hq1 => ?_, by rw [o27]; exact c5, fun j k hk => ⟨(c6 j k hk).1, ?_⟩, by rw [o5]; exact c7, by rw [o31]; exact c8, by rw [o32]; exact c9, by rw [o33]; exact c10, fun q g1 g2 => ?_⟩
  · by_cases e : q = i
    · subst e; rw [upR_s]; exact hi
    · rw [upR_n pr r e]; exact rw_agr (hq q e) (hw q hq1)
  · by_cases e : k = i
    · subst e; rw [upR_s, hr]; exact (c6 j k hk).2
    · rw [upR_n pr r e]; exact (c6 j k hk).2
  · obtain ⟨⟨-, -, a3, a4, a5, a6, a7, -⟩, -⟩ := hq q (by omega)
    rw [a3, a4, a5, a6, a7]; exact c11 q g1 g2
/-- arrays that Rl does not look at -/
theorem Rl.scr (R : Rl kn nn fs fu fn fm pr ci rev fd am al) {am' : Nat → Nat → Int32} (ho : oth am am' al al) (hq : ∀ q, agr am am' al al q) : Rl kn nn fs fu fn fm pr ci rev fd am' al := by
  obtain ⟨c1, c2, c3, hw, c5, c6, c7, c8, c9, c10, c11⟩ := R
  obtain ⟨⟨o5, o6, o7, o27, o31, o32, o33⟩, o3, o4⟩ := ho
  exact ⟨c1, by rw [o3, o4]; exact c2, by rw [o6, o7]; exact c3, fun q hq1 => rw_agr (hq q) (hw q hq1), by rw [o27]; exact c5, c6, by rw [o5]; exact c7, by rw [o31]; exact c8, by rw [o32]; exact c9, by rw [o33]; exact c10, fun q g1 g2 => by obtain ⟨⟨-, -, a3, a4, a5, a6, a7, -⟩, -⟩ := hq q; rw [a3, a4, a5, a6, a7]; exact c11 q g1 g2⟩
theorem st_key (R : Rl kn nn fs fu fn fm pr ci rev fd am al) {a b : Int64} {r r' : Int32} {n2 n2' : Nat} {gs gu g3 g4 : Nat → Int64} (h : (20 ≤ kn ∧ r = -1 ∧ n2 = kn ∧ gs = fs ∧ gu = fu) ∨ (kn < 20 ∧ r = nI kn ∧ n2 = kn + 1 ∧ gs = vp_updL fs kn a ∧ gu = vp_updL fu kn b)) (h' : (20 ≤ kn ∧ r' = -1 ∧ n2' = kn ∧ g3 = al 3 ∧ g4 = al 4) ∨ (kn < 20 ∧ r' = nI kn ∧ n2' = kn + 1 ∧ g3 = vp_updL (al 3) kn a ∧ g4 = vp_updL (al 4) kn b)) : r = r' ∧ n2 = n2' ∧ Rl n2 nn gs gu fn fm pr ci rev fd am (uJ (uJ al 3 g3) 4 g4) := by
  rcases h with ⟨h0, rfl, rfl, rfl, rfl⟩ | ⟨h0, rfl, rfl, rfl, rfl⟩
  · rcases h' with ⟨g0, rfl, rfl, rfl, rfl⟩ | ⟨g0, -⟩
    · refine ⟨rfl, rfl, ?_⟩
      have e : uJ (uJ al 3 (al 3)) 4 (al 4) = al := by
        funext q
        unfold uJ
        by_cases e1 : q = 4
        · rw [if_pos e1, e1]
        · rw [if_neg e1]
          by_cases e2 : q = 3
          · rw [if_pos e2, e2]
          · rw [if_neg e2]
      rw [e]; exact R
    · omega
  · rcases h' with ⟨g0, -⟩ | ⟨g0, rfl, rfl, rfl, rfl⟩
    · omega
    · refine ⟨rfl, rfl, ?_⟩
      obtain ⟨c1, c2, c3, hw, c5, c6, c7, c8, c9, c10, c11⟩ := R
      refine ⟨⟨by omega, c1.2⟩, fun k hk => ?_, c3, fun i hi => ?_, c5, c6, c7, c8, c9, c10, c11⟩
      · show vp_updL (al 3) kn a k = _ ∧ vp_updL (al 4) kn b k = _
        by_cases e : k = kn
        · subst e; rw [vp_us, vp_us, vp_us, vp_us]; exact ⟨rfl, rfl⟩
        · rw [vp_un e, vp_un e, vp_un e, vp_un e]; exact c2 k (by omega)
      · obtain ⟨w0, x1, x2, x3⟩ := hw i hi
        refine ⟨w0, fun j hj => ?_, ?_, x3⟩
        · obtain ⟨k, h1, h2⟩ := x1 j hj; exact ⟨k, by omega, h2⟩
        · rw [x2, mk_no]
          · refine mk_congr (fun k hk => ?_)
            rw [vp_un (show k ≠ kn by omega)]
            exact Iff.rfl
          · rintro ⟨j, h1, h2, -⟩
            obtain ⟨k, g1, g2⟩ := x1 j h1
            have := (nI_eq (by omega) (by omega)).mp (g2.symm.trans h2)
            omega
theorem st_quorum (R : Rl kn nn fs fu fn fm pr ci rev fd am al) {y v r r' : Int32} {gn g6 : Nat → Int32} (h : (∃ j, j < 10 ∧ y = nI j ∧ ¬ v < 1 ∧ v ≤ 9 ∧ r = 1 ∧ gn = upd fn j v) ∨ (¬ (isN y 10 ∧ ¬ v < 1 ∧ v ≤ 9) ∧ r = 0 ∧ gn = fn)) (h' : (∃ j, j < 10 ∧ y = nI j ∧ ¬ v < 1 ∧ v ≤ 9 ∧ r' = 1 ∧ g6 = upd (am 6) j v) ∨ (¬ (isN y 10 ∧ ¬ v < 1 ∧ v ≤ 9) ∧ r' = 0 ∧ g6 = am 6)) : r = r' ∧ Rl kn nn fs fu gn fm pr ci rev fd (uA am 6 g6) al := by
  have key : ∀ gn g6 : Nat → Int32, (∀ j, j < 10 → g6 j = gn j) → Rl kn nn fs fu gn fm pr ci rev fd (uA am 6 g6) al := by
    intro gn g6 hg
    obtain ⟨c1, c2, c3, hw, c5, c6, c7, c8, c9, c10, c11⟩ := R
    exact ⟨c1, c2, fun j hj => ⟨hg j hj, (c3 j hj).2⟩, hw, c5, c6, c7, c8, c9, c10, c11⟩
  have c3 := R.2.2.1
  rcases h with ⟨j, h1, h2, h3, h4, rfl, rfl⟩ | ⟨h1, rfl, rfl⟩
  · rcases h' with ⟨j', g1, g2, g3, g4, rfl, rfl⟩ | ⟨g1, -⟩
    · have e : j = j' := (nI_eq (by omega) (by omega)).mp (h2.symm.trans g2)
      subst e
      refine ⟨rfl, key _ _ (fun k hk => ?_)⟩
      by_cases z : k = j
      · subst z; rw [upd_self, upd_self]
      · rw [upd_ne z, upd_ne z]; exact (c3 k hk).1
    · exact absurd ⟨⟨j, h1, h2⟩, h3, h4⟩ g1
  · rcases h' with ⟨j', g1, g2, g3, g4, -⟩ | ⟨g1, rfl, rfl⟩
    · exact absurd ⟨⟨j', g1, g2⟩, g3, g4⟩ h1
    · exact ⟨rfl, key _ _ (fun k hk => (c3 k hk).1)⟩
theorem st_holds (R : Rl kn nn fs fu fn fm pr ci rev fd am al) {y z on r r' : Int32} {gm g7 : Nat → Int32} (h : (∃ j, j < 10 ∧ y = nI j ∧ isN z kn ∧ r = 1 ∧ (on = 0 → gm = upd fm j (fm j &&& ((1 <<< (z &&& 31)) ^^^ (-1)))) ∧ (¬ on = 0 → gm = upd fm j (fm j ||| (1 <<< (z &&& 31))))) ∨ (¬ (isN y 10 ∧ isN z kn) ∧ r = 0 ∧ gm = fm)) (h' : (∃ j, j < 10 ∧ y = nI j ∧ isN z kn ∧ r' = 1 ∧ (on = 0 → g7 = upd (am 7) j (am 7 j &&& ((1 <<< (z &&& 31)) ^^^ (-1)))) ∧ (¬ on = 0 → g7 = upd (am 7) j (am 7 j ||| (1 <<< (z &&& 31))))) ∨ (¬ (isN y 10 ∧ isN z kn) ∧ r' = 0 ∧ g7 = am 7)) : r = r' ∧ Rl kn nn fs fu fn gm pr ci rev fd (uA am 7 g7) al := by
  have key : ∀ gm g7 : Nat → Int32, (∀ j, j < 10 → g7 j = gm j) → Rl kn nn fs fu fn gm pr ci rev fd (uA am 7 g7) al := by
    intro gn g6 hg
    obtain ⟨c1, c2, c3, hw, c5, c6, c7, c8, c9, c10, c11⟩ := R
    exact ⟨c1, c2, fun j hj => ⟨(c3 j hj).1, hg j hj⟩, hw, c5, c6, c7, c8, c9, c10, c11⟩
  have c3 := R.2.2.1
  rcases h with ⟨j, h1, h2, h3, rfl, h4, h5⟩ | ⟨h1, rfl, rfl⟩
  · rcases h' with ⟨j', g1, g2, g3, rfl, g4, g5⟩ | ⟨g1, -⟩
    · have e : j = j' := (nI_eq (by omega) (by omega)).mp (h2.symm.trans g2)
      subst e
      refine ⟨rfl, key _ _ (fun k hk => ?_)⟩
      by_cases o : on = 0
      · rw [h4 o, g4 o]
        by_cases z : k = j
        · subst z; rw [upd_self, upd_self, (c3 k hk).2]
        · rw [upd_ne z, upd_ne z]; exact (c3 k hk).2
      · rw [h5 o, g5 o]
        by_cases z : k = j
        · subst z; rw [upd_self, upd_self, (c3 k hk).2]
        · rw [upd_ne z, upd_ne z]; exact (c3 k hk).2
    · exact absurd ⟨⟨j, h1, h2⟩, h3⟩ g1
  · rcases h' with ⟨j', g1, g2, g3, -⟩ | ⟨g1, rfl, rfl⟩
    · exact absurd ⟨⟨j', g1, g2⟩, g3⟩ h1
    · exact ⟨rfl, key _ _ (fun k hk => (c3 k hk).2)⟩
end ST
/-! STEPS: rows -/
theorem updN_id (f : Nat → Nat) (k : Nat) : updN f k (f k) = f := by
  funext j; unfold updN; by_cases e : j = k
  · rw [if_pos e, e]
  · rw [if_neg e]
theorem uA_id (am : Nat → Nat → Int32) (k : Nat) : uA am k (am k) = am := by
  funext j; unfold uA; by_cases e : j = k
  · rw [if_pos e, e]
  · rw [if_neg e]
theorem uJ_id (al : Nat → Nat → Int64) (k : Nat) : uJ al k (al k) = al := by
  funext j; unfold uJ; by_cases e : j = k
  · rw [if_pos e, e]
  · rw [if_neg e]
theorem upR_id (pr : Nat → RowP) (i : Nat) : upR pr i (pr i) = pr := by
  funext j; unfold upR; by_cases e : j = i
  · rw [if_pos e, e]
  · rw [if_neg e]
theorem nI_z {n : Nat} (h : n < 2 ^ 31) : nI n = 0 ↔ n = 0 := nI_eq (b := 0) h (by omega)
theorem rk0 {kn : Nat} {fs : Nat → Int64} {am : Nat → Nat → Int32} {al : Nat → Nat → Int64} {r : RowP} {i : Nat} (h : rw1 kn fs am al r i) (h0 : r.1 14 = 0) : r.2.1 2 = 0 := by
  rw [h.2.1]
  exact mk_none (fun k _ ⟨j, h1, _⟩ => absurd h1 (by omega))
theorem rw1_0 {kn : Nat} {fs : Nat → Int64} {am : Nat → Nat → Int32} {al : Nat → Nat → Int64} {r : RowP} {i : Nat} (h0 : r.1 14 = 0) (h2 : r.2.1 2 = 0) (ht : (∀ j, j < r.1 15 → may (nI (r.1 17)) (r.2.2.2 3 j) ∧ ¬ r.2.2.2 4 j < 1) ∧ (∀ j k, j < k → k < r.1 15 → ¬ r.2.2.2 3 j = r.2.2.2 3 k) ∧ (∀ j, j < r.1 16 → isN (r.2.2.2 6 j) 10) ∧ ¬ r.2.1 1 < 1) : rw1 kn fs am al r i := by
  refine ⟨fun j hj => absurd hj (by omega), ?_, ht⟩
  rw [h2]
  exact (mk_none (fun k _ ⟨j, h1, _⟩ => absurd h1 (by omega))).symm
/-- a new row's picture -/
def newR (ad : Nat → Nat) (nn j : Nat) (v : Int32) (u : Int64) (gn gm : Nat → Int32) : RowP := (fun a => if a = 17 then j else if a < 12 then ad a else 0, fun a => if a = 0 then nI nn else if a = 1 then v else 0, u, fun a => if a = 1 then gn else if a = 2 then gm else fun _ => 0)
section ST
variable {kn nn : Nat} {fs fu : Nat → Int64} {fn fm : Nat → Int32} {pr : Nat → RowP} {ci : Nat → Option Nat} {rev : Int32} {fd : Nat → Int32} {am : Nat → Nat → Int32} {al : Nat → Nat → Int64}
theorem st_row (R : Rl kn nn fs fu fn fm pr ci rev fd am al) {ad : Nat → Nat} {j : Nat} {v : Int32} {u : Int64} {gn gm g8 g9 g10 g11 : Nat → Int32} {g14 : Nat → Int64} (hnn : nn < 24) (hj : j < 10) (hv : ¬ v < 1 ∧ ¬ 1000000 < v) (h : j = 0 → ∀ k, k < 10 → gn k = fn k ∧ gm k = fm k) (h' : g10 = upd (am 10) nn (nI j) ∧ g11 = upd (am 11) nn v ∧ g14 = vp_updL (al 14) nn u ∧ (∀ k, k < 10 → g8 (10 * nn + k) = am 6 k ∧ g9 (10 * nn + k) = am 7 k) ∧ ∀ k, k < 10 * nn → g8 k = am 8 k ∧ g9 k = am 9 k) : Rl kn (nn + 1) fs fu fn fm (upR pr nn (newR ad nn j v u gn gm)) ci rev fd (uA (uA (uA (uA am 10 g10) 11 g11) 8 g8) 9 g9) (uJ al 14 g14) := by
  obtain ⟨rfl, rfl, rfl, k1, k2⟩ := h'
  obtain ⟨c1, c2, c3, hw, c5, c6, c7, c8, c9, c10, c11⟩ := R
  refine ⟨⟨c1.1, by omega⟩, c2, c3, fun q hq => ?_, c5, fun a k hk => ?_, c7, c8, c9, c10, fun q g1 g2 => c11 q (by omega) g2⟩
  · by_cases e : q = nn
    · subst e
      rw [upR_s]
      obtain ⟨z1, z2, z3, z4, z5⟩ := c11 q (Nat.le_refl _) hnn
      refine ⟨⟨⟨Nat.zero_le _, Nat.zero_le _, Nat.zero_le _, Nat.zero_le _, Nat.zero_le _, hj⟩, rfl, ⟨upd_self _ _ _, z1, z2, z3, z4, z5⟩, ⟨upd_self _ _ _, vp_us⟩, fun a ha => absurd ha (by show ¬ a < 0; omega), fun h0 a ha => ?_, fun a ha => absurd ha (by show ¬ a < 0; omega), fun a ha => absurd ha (by show ¬ a < 0; omega), fun a ha => absurd ha (by show ¬ a < 0; omega)⟩, rw1_0 rfl rfl ⟨fun a ha => absurd ha (by show ¬ a < 0; omega), fun a b _ hb => absurd hb (by show ¬ b < 0; omega), fun a ha => absurd ha (by show ¬ a < 0; omega), hv.1⟩⟩
      have h1 := h h0 a ha
      exact ⟨((k1 a ha).1.trans (c3 a ha).1).trans h1.1.symm, ((k1 a ha).2.trans (c3 a ha).2).trans h1.2.symm⟩
    · rw [upR_n pr _ e]
      refine rw_agr ⟨⟨upd_ne e, upd_ne e, rfl, rfl, rfl, rfl, rfl, vp_un e⟩, fun _ _ => rfl, fun a ha => k2 _ (by omega), fun _ _ => ⟨rfl, rfl⟩, fun _ _ => ⟨rfl, rfl, rfl, rfl⟩, fun _ _ => ⟨rfl, rfl⟩⟩ (hw q (by omega))
  · obtain ⟨g1, g2⟩ := c6 a k hk
    exact ⟨by omega, by rw [upR_n pr _ (show k ≠ nn by omega)]; exact g2⟩
theorem st_octet (R : Rl kn nn fs fu fn fm pr ci rev fd am al) {i : Nat} (hi : i < nn) {y b r r' : Int32} (hy : y = nI i) {oc2 : Nat} {go g12 g13 : Nat → Int32}
    (h : ((pr i).1 14 = 0 ∧ (pr i).1 12 < 16 ∧ r = nI ((pr i).1 12 + 1) ∧ oc2 = (pr i).1 12 + 1 ∧ go = upd ((pr i).2.2.2 0) ((pr i).1 12) (by8 b)) ∨ (¬ ((pr i).1 14 = 0 ∧ (pr i).1 12 < 16) ∧ r = -1 ∧ oc2 = (pr i).1 12 ∧ go = (pr i).2.2.2 0))
    (h' : (∃ i, i < nn ∧ y = nI i ∧ am 24 i = 0 ∧ (pr i).1 12 < 16 ∧ r' = nI ((pr i).1 12 + 1) ∧ g12 = upd (am 12) i (nI ((pr i).1 12 + 1)) ∧ g13 = upd (am 13) (16 * i + (pr i).1 12) (b &&& 255)) ∨ (¬ (∃ i, i < nn ∧ y = nI i ∧ am 24 i = 0 ∧ (pr i).1 12 < 16) ∧ r' = -1 ∧ g12 = am 12 ∧ g13 = am 13)) :
    r = r' ∧ Rl kn nn fs fu fn fm (upR pr i (updN (pr i).1 12 oc2, (pr i).2.1, (pr i).2.2.1, uA (pr i).2.2.2 0 go)) ci rev fd (uA (uA am 12 g12) 13 g13) al := by
  obtain ⟨w0, w1⟩ := R.2.2.2.1 i hi
  have hn := R.1.2
  have e24 : am 24 i = 0 ↔ (pr i).1 14 = 0 := by rw [w0.2.2.1.2.2.2.2.2]; exact nI_z (by have := w0.1.2.2.1; omega)
  rcases h with ⟨h0, h1, rfl, rfl, rfl⟩ | ⟨h0, rfl, rfl, rfl⟩
  · rcases h' with ⟨i', g1, g2, g3, g4, rfl, rfl, rfl⟩ | ⟨g1, -⟩
    · have e : i = i' := (nI_eq (by omega) (by omega)).mp (hy.symm.trans g2)
      subst e
      refine ⟨rfl, Rl.row1 R ⟨⟨rfl, rfl, rfl, rfl, rfl, rfl, rfl⟩, rfl, rfl⟩ hi (fun q hq => ?_) rfl ⟨?_, rw1_0 (by simp only [updN, reduceIte, Nat.reduceEqDiff]; exact h0) (rk0 (r := pr i) w1 h0) (by simp only [updN, uA, reduceIte, Nat.reduceEqDiff]; exact w1.2.2)⟩⟩
      · refine ⟨⟨rfl, rfl, upd_ne hq, rfl, rfl, rfl, rfl, rfl⟩, fun a ha => upd_ne (by omega), fun _ _ => ⟨rfl, rfl⟩, fun _ _ => ⟨rfl, rfl⟩, fun _ _ => ⟨rfl, rfl, rfl, rfl⟩, fun _ _ => ⟨rfl, rfl⟩⟩
      · obtain ⟨⟨k1, k2⟩, n1, ⟨m1, m2, m3⟩, v1, x1, x2⟩ := w0
        simp only [rw0, rOk, uA, updN, reduceIte, Nat.reduceEqDiff]
        refine ⟨⟨by omega, k2⟩, n1, ⟨m1, upd_self _ _ _, m3⟩, v1, fun a ha => ?_, x2⟩
        by_cases z : a = (pr i).1 12
        · rw [z, upd_self, upd_self, by8_255]
        · rw [upd_ne (by omega), upd_ne z]; exact x1 a (by omega)
    · exact absurd ⟨i, hi, hy, e24.mpr h0, h1⟩ g1
  · rcases h' with ⟨i', g1, g2, g3, g4, -⟩ | ⟨g1, rfl, rfl, rfl⟩
    · have e : i = i' := (nI_eq (by omega) (by omega)).mp (hy.symm.trans g2)
      subst e
      exact absurd ⟨e24.mp g3, g4⟩ h0
    · refine ⟨rfl, ?_⟩
      rw [updN_id, uA_id, uA_id, uA_id]
      show Rl kn nn fs fu fn fm (upR pr i (pr i)) ci rev fd am al
      rw [upR_id]; exact R
theorem st_lists (R : Rl kn nn fs fu fn fm pr ci rev fd am al) {i : Nat} (hi : i < nn) {y u r r' : Int32} (hy : y = nI i) {pn2 : Nat} {gh g22 g23 : Nat → Int32}
    (h : (((pr i).1 14 = 0 ∧ ¬ nI ((pr i).1 17) < 3 ∧ ¬ cnt u 14 = 0 ∧ (pr i).1 13 < 6) ∧ r = nI ((pr i).1 13 + 1) ∧ pn2 = (pr i).1 13 + 1 ∧ gh = upd ((pr i).2.2.2 8) ((pr i).1 13) u) ∨ (¬ ((pr i).1 14 = 0 ∧ ¬ nI ((pr i).1 17) < 3 ∧ ¬ cnt u 14 = 0 ∧ (pr i).1 13 < 6) ∧ r = -1 ∧ pn2 = (pr i).1 13 ∧ gh = (pr i).2.2.2 8))
    (h' : (∃ i, i < nn ∧ y = nI i ∧ am 24 i = 0 ∧ ¬ (pr i).1 17 < 3 ∧ ¬ cnt u 14 = 0 ∧ (pr i).1 13 < 6 ∧ r' = nI ((pr i).1 13 + 1) ∧ g22 = upd (am 22) i (nI ((pr i).1 13 + 1)) ∧ g23 = upd (am 23) (6 * i + (pr i).1 13) u) ∨ (¬ (∃ i, i < nn ∧ y = nI i ∧ am 24 i = 0 ∧ ¬ (pr i).1 17 < 3 ∧ ¬ cnt u 14 = 0 ∧ (pr i).1 13 < 6) ∧ r' = -1 ∧ g22 = am 22 ∧ g23 = am 23)) :
    r = r' ∧ Rl kn nn fs fu fn fm (upR pr i (updN (pr i).1 13 pn2, (pr i).2.1, (pr i).2.2.1, uA (pr i).2.2.2 8 gh)) ci rev fd (uA (uA am 22 g22) 23 g23) al := by
  obtain ⟨w0, w1⟩ := R.2.2.2.1 i hi
  have hn := R.1.2
  have e24 : am 24 i = 0 ↔ (pr i).1 14 = 0 := by rw [w0.2.2.1.2.2.2.2.2]; exact nI_z (by have := w0.1.2.2.1; omega)
  have e3 : nI ((pr i).1 17) < 3 ↔ (pr i).1 17 < 3 := nI_ltI (b := 3) (by have := w0.1.2.2.2.2.2; omega) (by omega)
  rcases h with ⟨⟨h0, h1, h2, h3⟩, rfl, rfl, rfl⟩ | ⟨h0, rfl, rfl, rfl⟩
  · rcases h' with ⟨i', g1, g2, g3, g4, g5, g6, rfl, rfl, rfl⟩ | ⟨g1, -⟩
    · have e : i = i' := (nI_eq (by omega) (by omega)).mp (hy.symm.trans g2)
      subst e
      refine ⟨rfl, Rl.row1 R ⟨⟨rfl, rfl, rfl, rfl, rfl, rfl, rfl⟩, rfl, rfl⟩ hi (fun q hq => ?_) rfl ⟨?_, rw1_0 (by simp only [updN, reduceIte, Nat.reduceEqDiff]; exact h0) (rk0 (r := pr i) w1 h0) (by simp only [updN, uA, reduceIte, Nat.reduceEqDiff]; exact w1.2.2)⟩⟩
      · refine ⟨⟨rfl, rfl, rfl, rfl, rfl, upd_ne hq, rfl, rfl⟩, fun _ _ => rfl, fun _ _ => ⟨rfl, rfl⟩, fun _ _ => ⟨rfl, rfl⟩, fun a ha => ⟨rfl, rfl, rfl, upd_ne (by omega)⟩, fun _ _ => ⟨rfl, rfl⟩⟩
      · obtain ⟨⟨k1, k2, k3⟩, n1, ⟨m1, m2, m3, m4, m5, m6⟩, v1, x1, x2, x3, x4, x5⟩ := w0
        simp only [rw0, rOk, uA, updN, reduceIte, Nat.reduceEqDiff]
        refine ⟨⟨k1, by omega, k3⟩, n1, ⟨m1, m2, m3, m4, upd_self _ _ _, m6⟩, v1, x1, x2, x3, x4, fun a ha => ?_⟩
        by_cases z : a = (pr i).1 13
        · rw [z, upd_self, upd_self]
        · rw [upd_ne (by omega), upd_ne z]; exact x5 a (by omega)
    · exact absurd ⟨i, hi, hy, e24.mpr h0, fun z => h1 (e3.mpr z), h2, h3⟩ g1
  · rcases h' with ⟨i', g1, g2, g3, g4, g5, g6, -⟩ | ⟨g1, rfl, rfl, rfl⟩
    · have e : i = i' := (nI_eq (by omega) (by omega)).mp (hy.symm.trans g2)
      subst e
      exact absurd ⟨e24.mp g3, fun z => g4 (e3.mp z), g5, g6⟩ h0
    · refine ⟨rfl, ?_⟩
      rw [updN_id, uA_id, uA_id, uA_id]
      show Rl kn nn fs fu fn fm (upR pr i (pr i)) ci rev fd am al
      rw [upR_id]; exact R
end ST
