theorem xmore {D : va_G} {cl : List vw_C} {ro L : va_W} {H : Heap} (h : va_P D cl ro H) (hs : ∀ q ∈ L, q ∈ ro) : va_P D cl (L ++ ro) H := va_P.of (fun q hq => h.mem ((List.mem_append.mp hq).elim (hs q) id))
theorem xmoreA {A : Nat → Prop} {ro L : va_W} (h : ∀ q ∈ ro, ¬ A q.1) (hs : ∀ q ∈ L, q ∈ ro) : ∀ q ∈ L ++ ro, ¬ A q.1 := fun q hq => h q ((List.mem_append.mp hq).elim (hs q) id)
theorem xpreT {E : xE} {A : Nat → Prop} {s : State} {wc wr ro ro1 X : va_W} {H : Heap} {locs : List Loc} {av : List Value} (hev : xEv E s) (hz : xZ E A s s.heap) (hA : ∀ q : Nat, s.heap.size ≤ q → A q) (hP : va_P E.1 vwCl (wc ++ wr) H) (hD : va_D A (wc ++ wr)) (hS : va_S A s.heap H locs) (hR0 : va_P E.1 vwCl ro s.heap) (hap : ∀ q ∈ ro, ¬ A q.1) (is : List Nat) (hro : is.map (fun i => (wr ++ ro)[i]?) = ro1.map some) (hX : ∀ q ∈ X, q ∈ ro) :
    ∀ U : State, U.heap = H → s.WarmedH U.vm → CP E wc (ro1 ++ X) H.size av av.toArray U := by
  intro U hU hW
  obtain ⟨q0, q1, q2, q3, q4, q5, q6, q7⟩ := xpre (av := av) hev hz hA hP hD hS hR0 hap is hro U hU hW
  have hF := xfree hD hS hA
  refine ⟨q0, q1, q2, q3.app (va_P.of (fun q hq => by rw [hU]; exact (xro hR0 hap hS).mem (hX q hq))), q4, fun q hq => ?_, q6, q7⟩
  rcases List.mem_append.mp hq with h | h
  · exact q5 q h
  · exact fun h9 => hap q (hX q h) (hF _ h9)
/-- a row's picture: places and counts (0 octets, 1 roster, 2 told, 3 delegations, 4 paths, 5 needed, 6 members, 7 roles, 8 versions, 9 patterns, 10 targets, 11 ending; 12 how many octets, 13 paths, 14 signatures, 15 told, 16 delegations; 17 its role); numbers (0 its number, 1 version, 2 right keys); until; what the arrays hold (0 octets, 1 needed, 2 members, 3 roles, 4 versions, 5 patterns, 6 targets, 7 ending, 8 paths) -/
abbrev RowP : Type := (Nat → Nat) × (Nat → Int32) × Int64 × (Nat → Nat → Int32)
def rowCells (E : xE) (a : Nat) (r : RowP) : va_W := [(a, .inr (5, [.int (r.2.1 0), .int (nI (r.1 17)), .int (r.2.1 1), .long r.2.2.1, .ref (r.1 0), .int (nI (r.1 12)), .ref (r.1 1), .ref (r.1 2), .ref (r.1 3), .ref (r.1 4), .int (nI (r.1 13)), .int (nI (r.1 14)), .int (r.2.1 2)])),
  (r.1 0, aB E 16 (r.2.2.2 0)),
  (r.1 1, .inr (4, [.ref (r.1 5), .ref (r.1 6)])), (r.1 5, aI E 10 (r.2.2.2 1)), (r.1 6, aI E 10 (r.2.2.2 2)),
  (r.1 2, .inr (7, [.ref (r.1 7), .ref (r.1 8), .int (nI (r.1 15))])), (r.1 7, aI E 7 (r.2.2.2 3)), (r.1 8, aI E 7 (r.2.2.2 4)),
  (r.1 3, .inr (2, [.ref (r.1 9), .ref (r.1 10), .ref (r.1 11), .int (nI (r.1 16))])), (r.1 9, aI E 6 (r.2.2.2 5)), (r.1 10, aI E 6 (r.2.2.2 6)), (r.1 11, aZ E 6 (r.2.2.2 7)),
  (r.1 4, aI E 6 (r.2.2.2 8))]
def rOk (r : RowP) : Prop := r.1 12 ≤ 16 ∧ r.1 13 ≤ 6 ∧ r.1 14 ≤ 12 ∧ r.1 15 ≤ 7 ∧ r.1 16 ≤ 6 ∧ r.1 17 < 10
/-- all rows -/
def rowsW (E : xE) (N : Nat) (ra : Nat → Nat) (pr : Nat → RowP) : va_W := (List.range N).flatMap (fun i => rowCells E (ra i) (pr i))
theorem rowsW_mem {E : xE} {N : Nat} {ra : Nat → Nat} {pr : Nat → RowP} {i : Nat} (hi : i < N) : ∀ q ∈ rowCells E (ra i) (pr i), q ∈ rowsW E N ra pr := fun q hq => List.mem_flatMap.mpr ⟨i, List.mem_range.mpr hi, hq⟩
/-- the quorum of a row r by a root row q -/
def qM (rev live : Int32) (r q : RowP) : Prop := ¬ jbc ((r.2.1 2 &&& (live &&& (rev ^^^ (-1)))) &&& q.2.2.2 2 (r.1 17)) < q.2.2.2 1 (r.1 17)
