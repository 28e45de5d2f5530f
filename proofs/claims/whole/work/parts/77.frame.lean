/-! A CONTRACT IN A LARGER WORLD: what is not its own stays -/
theorem va_A.memP {W wr R : va_W} {sz : Nat} (hp : W.Perm (wr ++ R)) : ∀ q, va_A wr sz q → va_A W sz q := by
  intro q h
  rcases h with ⟨k, e, h⟩ | h
  · have hm : (q, e) ∈ W := hp.mem_iff.mpr (List.mem_append_left _ (List.mem_of_getElem? h))
    obtain ⟨i, hi⟩ := List.getElem?_of_mem hm
    exact Or.inl ⟨i, e, hi⟩
  · exact Or.inr h
theorem CP.fr {E : xE} {W wr R ro : va_W} {sz : Nat} {av : List Value} {a : Array Value} {U : State} (hp : W.Perm (wr ++ R)) (hro : ∀ q ∈ ro, q ∈ R) (h : CP E W [] sz av a U) : CP E wr ro sz av a U := by
  obtain ⟨q0, q1, q2, q3, q4, q5, q6, q7⟩ := h
  have hP := q2.perm hp
  have hD := q4.perm hp
  refine ⟨q0, q1, hP.left, va_P.of (fun q hq => hP.right.mem (hro q hq)), hD.left, fun q hq => ?_, q6, q7.narrow (va_A.memP hp)⟩
  rw [← q1]
  exact xrest hP hD q (hro q hq)
theorem xB.fr {E : xE} {W wr R w W' : va_W} {sz : Nat} {av : List Value} {a : Array Value} {U t : State} (hp : W.Perm (wr ++ R)) (h : CP E W [] sz av a U) (hw : (w ++ R).Perm W') (hB : xB E (va_A wr sz) w t) (hF : va_F (va_A wr sz) U t) : xB E (va_A W sz) W' t ∧ va_F (va_A W sz) U t := by
  obtain ⟨q0, q1, q2, q3, q4, q5, q6, q7⟩ := h
  have hP := q2.perm hp
  have hD := q4.perm hp
  subst q1
  have hD2 : va_D (va_A W U.heap.size) (wr ++ R) := (q4.self (sz := U.heap.size)).perm hp
  obtain ⟨h1, h2⟩ := xjoin (H := U.heap) (H1 := t.heap) hP hD2 (va_A.memP hp) hF.2 hB.1 hB.2
  exact ⟨⟨h1.perm hw, h2.perm hw⟩, hF.1, fun q g1 g2 => hF.2 q g1 (fun z => g2 (va_A.memP hp q z))⟩
section FRM
variable {l : Launch} {y : MethodName} {ws : List Cond} {fr lo mc ms : Nat} {E : xE} {wr ro : va_W} {av : List Value} {W R : va_W}
theorem KT.frI {post post' : Int32 → va_W → Prop} (h : KT l y ws fr lo mc ms E wr ro av (QI E post)) (hp : W.Perm (wr ++ R)) (hro : ∀ q ∈ ro, q ∈ R) (hpost : ∀ v w, post v w → ∃ W', (w ++ R).Perm W' ∧ post' v W') : KT l y ws fr lo mc ms E W [] av (QI E post') := by
  intro sz
  refine MetFree.mono (h sz) (fun a s q => CP.fr hp hro q) (fun _ _ _ _ _ _ => trivial) (fun a s o s' q => ?_)
  rintro ⟨⟨⟨v, w, e1, h1, h2⟩, h3⟩, L, h4, h5⟩
  obtain ⟨W', g1, g2⟩ := hpost v w h1
  obtain ⟨k1, k2⟩ := xB.fr hp q g1 h2 h3
  exact ⟨⟨⟨v, W', e1, g2, k1⟩, k2⟩, L, h4, fun z hz => va_A.memP hp _ (h5 z hz)⟩
theorem KT.frL {post post' : Int64 → va_W → Prop} (h : KT l y ws fr lo mc ms E wr ro av (QL E post)) (hp : W.Perm (wr ++ R)) (hro : ∀ q ∈ ro, q ∈ R) (hpost : ∀ v w, post v w → ∃ W', (w ++ R).Perm W' ∧ post' v W') : KT l y ws fr lo mc ms E W [] av (QL E post') := by
  intro sz
  refine MetFree.mono (h sz) (fun a s q => CP.fr hp hro q) (fun _ _ _ _ _ _ => trivial) (fun a s o s' q => ?_)
  rintro ⟨⟨⟨v, w, e1, h1, h2⟩, h3⟩, L, h4, h5⟩
  obtain ⟨W', g1, g2⟩ := hpost v w h1
  obtain ⟨k1, k2⟩ := xB.fr hp q g1 h2 h3
  exact ⟨⟨⟨v, W', e1, g2, k1⟩, k2⟩, L, h4, fun z hz => va_A.memP hp _ (h5 z hz)⟩
end FRM
/-- the cells of one row out of those of all -/
theorem rowsW_split {E : xE} {ra : Nat → Nat} {pr : Nat → RowP} {i : Nat} : ∀ {N : Nat}, i < N → ∃ X : va_W, (rowsW E N ra pr).Perm (rowCells E (ra i) (pr i) ++ X) ∧ ∀ pr' : Nat → RowP, (∀ j, j ≠ i → pr' j = pr j) → (rowCells E (ra i) (pr' i) ++ X).Perm (rowsW E N ra pr') := by
  intro N
  induction N with
  | zero => intro h; exact absurd h (by omega)
  | succ N ih =>
    intro h
    have hs : ∀ pr' : Nat → RowP, rowsW E (N + 1) ra pr' = rowsW E N ra pr' ++ rowCells E (ra N) (pr' N) := fun pr' => by
      unfold rowsW
      rw [List.range_succ, List.flatMap_append]
      simp
    by_cases e : i = N
    · subst e
      refine ⟨rowsW E i ra pr, by rw [hs]; exact List.perm_append_comm, fun pr' h' => ?_⟩
      have e2 : rowsW E i ra pr' = rowsW E i ra pr := by
        unfold rowsW
        rw [List.flatMap_def, List.flatMap_def]
        congr 1
        refine List.map_congr_left (fun j hj => ?_)
        rw [h' j (by have := List.mem_range.mp hj; omega)]
      rw [hs, e2]
      exact List.perm_append_comm
    · obtain ⟨X, h1, h2⟩ := ih (by omega)
      refine ⟨X ++ rowCells E (ra N) (pr N), ?_, fun pr' h' => ?_⟩
      · rw [hs, ← List.append_assoc]
        exact h1.append_right _
      · rw [hs, ← List.append_assoc, h' N (fun z => e z.symm)]
        exact (h2 pr' h').append_right _
theorem rowsW_new {E : xE} {N : Nat} {ra ra' : Nat → Nat} {pr pr' : Nat → RowP} (h : ∀ j, j < N → ra' j = ra j ∧ pr' j = pr j) : rowsW E (N + 1) ra' pr' = rowsW E N ra pr ++ rowCells E (ra' N) (pr' N) := by
  have e2 : rowsW E N ra' pr' = rowsW E N ra pr := by
    unfold rowsW
    rw [List.flatMap_def, List.flatMap_def]
    congr 1
    refine List.map_congr_left (fun j hj => ?_)
    obtain ⟨h1, h2⟩ := h j (List.mem_range.mp hj)
    rw [h1, h2]
  rw [← e2]
  unfold rowsW
  rw [List.range_succ, List.flatMap_append]
  simp
