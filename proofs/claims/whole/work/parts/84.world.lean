/-! WORLDS OF THE LAW -/
theorem hasRoomM {s : State} {pl : Platform} {r r' : Room} (hf : r.frames ≤ r'.frames) (hl : r.locals ≤ r'.locals) (hc : r.cells ≤ r'.cells) (hs : r.slots ≤ r'.slots) (h : s.hasRoom pl r' = true) : s.hasRoom pl r = true := by
  simp only [State.hasRoom, Bool.and_eq_true, decide_eq_true_eq] at h ⊢
  obtain ⟨⟨⟨⟨a1, a2, a3, a4, a5, a6⟩, a7⟩, a8⟩, a9⟩ := h
  exact ⟨⟨⟨⟨by omega, by omega, by omega, by omega, by omega, a6⟩, by omega⟩, by omega⟩, a9⟩
/-- a contract under more room -/
theorem KT.up {l : Launch} {y : MethodName} {ws : List Cond} {fr lo mc ms fr' lo' mc' ms' : Nat} {E : xE} {wr ro : va_W} {av : List Value} {Qf : (Nat → Prop) → Array Value → State → Outcome → State → Prop} (h : KT l y ws fr lo mc ms E wr ro av Qf) (h1 : fr ≤ fr') (h2 : lo ≤ lo') (h3 : mc ≤ mc') (h4 : ms ≤ ms') : KT l y ws fr' lo' mc' ms' E wr ro av Qf := by
  intro sz p e ha hc hk s m args below hfr happ hP hK
  obtain ⟨a1, a2, a3, a4, a5, a6, a7, a8⟩ := (Spec.appliesLoose_iff hfr).mp happ
  obtain ⟨n, o, b1, b2, b3, b4, L, ⟨b5, b6, b7⟩, b8⟩ := h sz p e ha hc hk s m args below hfr ((Spec.appliesLoose_iff hfr).mpr ⟨a1, a2, a3, a4, a5, a6, hasRoomM (r := { frames := fr, cells := mc, slots := ms, locals := lo }) (r' := { frames := fr', cells := mc', slots := ms', locals := lo' }) h1 h2 h3 h4 a7, a8⟩) hP hK
  exact ⟨n, o, b1, b2, b3, b4, L, ⟨b5, b6, b7.mono h3 h4⟩, b8⟩
def pck {α : Type} (L : List α) (is : List Nat) : List α := is.filterMap (fun i => L[i]?)
theorem pck_range {α : Type} (L : List α) : pck L (List.range L.length) = L := by
  unfold pck
  induction L with
  | nil => rfl
  | cons a L ih =>
    rw [List.length_cons, List.range_succ_eq_map, List.filterMap_cons]
    simp only [List.getElem?_cons_zero, List.filterMap_map]
    congr 1
theorem pck_perm {α : Type} {L : List α} {is js : List Nat} (h : (is ++ js).Perm (List.range L.length)) : L.Perm (pck L is ++ pck L js) := by
  have e := h.filterMap (fun i => L[i]?)
  rw [List.filterMap_append] at e
  have e2 : List.filterMap (fun i => L[i]?) (List.range L.length) = L := pck_range L
  rw [e2] at e
  exact e.symm
theorem pck_sub {α : Type} {L : List α} {ks js : List Nat} (h : ∀ k ∈ ks, k ∈ js) : ∀ q ∈ pck L ks, q ∈ pck L js := by
  intro q hq
  obtain ⟨i, h1, h2⟩ := List.mem_filterMap.mp hq
  exact List.mem_filterMap.mpr ⟨i, h i h1, h2⟩
/-- the table of the rows -/
def rfO (nn : Nat) (ra : Nat → Nat) : Nat → Option Nat := fun i => if i < nn then some (ra i) else none
theorem rAt_s {nn : Nat} {ra : Nat → Nat} {y : Int32} {i : Nat} (hn : nn ≤ 24) (hi : i < nn) (hy : y = nI i) : rAt (rfO nn ra) y = some (ra i) := by
  subst hy
  rw [rAt_t ⟨i, by omega, rfl⟩, nI_clamp (by omega)]
  exact if_pos hi
theorem rAt_n {nn : Nat} {ra : Nat → Nat} {y : Int32} (h : ¬ isN y nn) : rAt (rfO nn ra) y = none := by
  by_cases g : isN y 24
  · rw [rAt_t g]
    obtain ⟨j, hj, rfl⟩ := g
    rw [nI_clamp (by omega)]
    exact if_neg (fun z => h ⟨j, z, rfl⟩)
  · exact rAt_f g
/-- the class's own cells, rows aside -/
def cwL (E : xE) (ax : Nat → Nat) (kn nn ln : Nat) (fs fu : Nat → Int64) (gi : Nat → Nat → Int32) (ra : Nat → Nat) (ci : Nat → Option Nat) (rev sea : Int32) : va_W :=
  [(ax 0, .inr (8, [.ref (ax 1), .ref (ax 2), .ref (ax 3), .int (nI nn), .ref (ax 4), .ref (ax 5), .ref (ax 6)])), (ax 1, .inr (3, [.ref (ax 7), .ref (ax 8), .int (nI kn)])), (ax 7, aJ E 20 fs), (ax 8, aJ E 20 fu), (ax 2, .inr (4, [.ref (ax 9), .ref (ax 10)])), (ax 9, aI E 10 (gi 0)), (ax 10, aI E 10 (gi 1)), (ax 3, aR E 24 (rfO nn ra)), (ax 4, .inr (1, [.ref (ax 11), .int rev, .int sea])), (ax 11, aR E 10 (fun j => (ci j).map ra)), (ax 5, .inr (6, [.ref (ax 12), .ref (ax 13), .ref (ax 14), .int (nI ln)])), (ax 12, aB E 128 (gi 2)), (ax 13, aI E 64 (gi 3)), (ax 14, aI E 8 (gi 4)), (ax 6, aI E 8 (gi 5))]
def CW (E : xE) (ax : Nat → Nat) (kn nn ln : Nat) (fs fu : Nat → Int64) (gi : Nat → Nat → Int32) (ra : Nat → Nat) (pr : Nat → RowP) (ci : Nat → Option Nat) (rev sea : Int32) : va_W := cwL E ax kn nn ln fs fu gi ra ci rev sea ++ rowsW E nn ra pr
section KW
variable {l : Launch} {y : MethodName} {ws : List Cond} {fr lo mc ms : Nat} {E : xE} {ro : va_W} {av : List Value} {L X : va_W}
theorem KT.pkI {post post' : Int32 → va_W → Prop} (is js : List Nat) (hN : (is ++ js).Perm (List.range L.length)) (h : KT l y ws fr lo mc ms E (pck L is) ro av (QI E post)) (hro : ∀ q ∈ ro, q ∈ pck L js ++ X) (hpost : ∀ v w, post v w → ∃ L' : va_W, L'.length = L.length ∧ pck L' is = w ∧ pck L' js = pck L js ∧ post' v (L' ++ X)) : KT l y ws fr lo mc ms E (L ++ X) [] av (QI E post') := by
  refine KT.frI (R := pck L js ++ X) h ?_ hro (fun v w hp => ?_)
  · rw [← List.append_assoc]
    exact (pck_perm hN).append_right X
  · obtain ⟨L', e1, e2, e3, e4⟩ := hpost v w hp
    refine ⟨L' ++ X, ?_, e4⟩
    rw [← e2, ← e3, ← List.append_assoc]
    exact (pck_perm (by rw [e1]; exact hN)).symm.append_right X
theorem KT.pkL {post post' : Int64 → va_W → Prop} (is js : List Nat) (hN : (is ++ js).Perm (List.range L.length)) (h : KT l y ws fr lo mc ms E (pck L is) ro av (QL E post)) (hro : ∀ q ∈ ro, q ∈ pck L js ++ X) (hpost : ∀ v w, post v w → ∃ L' : va_W, L'.length = L.length ∧ pck L' is = w ∧ pck L' js = pck L js ∧ post' v (L' ++ X)) : KT l y ws fr lo mc ms E (L ++ X) [] av (QL E post') := by
  refine KT.frL (R := pck L js ++ X) h ?_ hro (fun v w hp => ?_)
  · rw [← List.append_assoc]
    exact (pck_perm hN).append_right X
  · obtain ⟨L', e1, e2, e3, e4⟩ := hpost v w hp
    refine ⟨L' ++ X, ?_, e4⟩
    rw [← e2, ← e3, ← List.append_assoc]
    exact (pck_perm (by rw [e1]; exact hN)).symm.append_right X
/-- the same over a row's cells -/
theorem KT.rwI {C : va_W} {nn i : Nat} {ra : Nat → Nat} {pr : Nat → RowP} (hi : i < nn) {post post' : Int32 → va_W → Prop} (is js : List Nat) (hN : (is ++ js).Perm (List.range (C ++ rowCells E (ra i) (pr i)).length)) (h : KT l y ws fr lo mc ms E (pck (C ++ rowCells E (ra i) (pr i)) is) ro av (QI E post)) (hro : ∀ q ∈ ro, q ∈ pck (C ++ rowCells E (ra i) (pr i)) js) (hpost : ∀ v w, post v w → ∃ (C' : va_W) (r : RowP), C'.length = C.length ∧ pck (C' ++ rowCells E (ra i) r) is = w ∧ pck (C' ++ rowCells E (ra i) r) js = pck (C ++ rowCells E (ra i) (pr i)) js ∧ post' v (C' ++ rowsW E nn ra (upR pr i r))) : KT l y ws fr lo mc ms E (C ++ rowsW E nn ra pr) [] av (QI E post') := by
  obtain ⟨X, x1, x2⟩ := rowsW_split (E := E) (ra := ra) (pr := pr) hi
  refine KT.frI (R := pck (C ++ rowCells E (ra i) (pr i)) js ++ X) h ?_ (fun q hq => List.mem_append_left _ (hro q hq)) (fun v w hp => ?_)
  · rw [← List.append_assoc]
    refine (x1.append_left C).trans ?_
    rw [← List.append_assoc]
    exact (pck_perm hN).append_right X
  · obtain ⟨C', r, e1, e2, e3, e4⟩ := hpost v w hp
    refine ⟨C' ++ rowsW E nn ra (upR pr i r), ?_, e4⟩
    rw [← e2, ← e3, ← List.append_assoc]
    refine ((pck_perm (L := C' ++ rowCells E (ra i) r) (is := is) (js := js) ?_).symm.append_right X).trans ?_
    · have e5 : (C' ++ rowCells E (ra i) r).length = (C ++ rowCells E (ra i) (pr i)).length := by rw [List.length_append, List.length_append, e1]; rfl
      rw [e5]; exact hN
    · rw [List.append_assoc]
      refine List.Perm.append_left C' ?_
      have := x2 (upR pr i r) (fun j hj => upR_n pr r hj)
      rw [upR_s] at this
      exact this
theorem KT.rwL {C : va_W} {nn i : Nat} {ra : Nat → Nat} {pr : Nat → RowP} (hi : i < nn) {post post' : Int64 → va_W → Prop} (is js : List Nat) (hN : (is ++ js).Perm (List.range (C ++ rowCells E (ra i) (pr i)).length)) (h : KT l y ws fr lo mc ms E (pck (C ++ rowCells E (ra i) (pr i)) is) ro av (QL E post)) (hro : ∀ q ∈ ro, q ∈ pck (C ++ rowCells E (ra i) (pr i)) js) (hpost : ∀ v w, post v w → ∃ (C' : va_W) (r : RowP), C'.length = C.length ∧ pck (C' ++ rowCells E (ra i) r) is = w ∧ pck (C' ++ rowCells E (ra i) r) js = pck (C ++ rowCells E (ra i) (pr i)) js ∧ post' v (C' ++ rowsW E nn ra (upR pr i r))) : KT l y ws fr lo mc ms E (C ++ rowsW E nn ra pr) [] av (QL E post') := by
  obtain ⟨X, x1, x2⟩ := rowsW_split (E := E) (ra := ra) (pr := pr) hi
  refine KT.frL (R := pck (C ++ rowCells E (ra i) (pr i)) js ++ X) h ?_ (fun q hq => List.mem_append_left _ (hro q hq)) (fun v w hp => ?_)
  · rw [← List.append_assoc]
    refine (x1.append_left C).trans ?_
    rw [← List.append_assoc]
    exact (pck_perm hN).append_right X
  · obtain ⟨C', r, e1, e2, e3, e4⟩ := hpost v w hp
    refine ⟨C' ++ rowsW E nn ra (upR pr i r), ?_, e4⟩
    rw [← e2, ← e3, ← List.append_assoc]
    refine ((pck_perm (L := C' ++ rowCells E (ra i) r) (is := is) (js := js) ?_).symm.append_right X).trans ?_
    · have e5 : (C' ++ rowCells E (ra i) r).length = (C ++ rowCells E (ra i) (pr i)).length := by rw [List.length_append, List.length_append, e1]; rfl
      rw [e5]; exact hN
    · rw [List.append_assoc]
      refine List.Perm.append_left C' ?_
      have := x2 (upR pr i r) (fun j hj => upR_n pr r hj)
      rw [upR_s] at this
      exact this
end KW
