theorem va_P.perm {D : va_G} {cl : List vw_C} {ws ws' : va_W} {H : Heap} (h : va_P D cl ws H) (hp : ws.Perm ws') : va_P D cl ws' H := fun k q hk => by
  obtain ⟨i, hi⟩ := List.getElem?_of_mem (hp.mem_iff.mpr (List.mem_of_getElem? hk))
  exact h i q hi
theorem va_P.mem {D : va_G} {cl : List vw_C} {ws : va_W} {H : Heap} (h : va_P D cl ws H) {q : Nat × va_E} (hq : q ∈ ws) : va_at D cl q H := by
  obtain ⟨i, hi⟩ := List.getElem?_of_mem hq
  exact h i q hi
theorem va_P.of {D : va_G} {cl : List vw_C} {ws : va_W} {H : Heap} (h : ∀ q ∈ ws, va_at D cl q H) : va_P D cl ws H := fun k q hk => h q (List.mem_of_getElem? hk)
theorem va_D.pw {A : Nat → Prop} {ws : va_W} : va_D A ws ↔ (ws.Pairwise (fun p q => p.1 ≠ q.1) ∧ ∀ q ∈ ws, A q.1) := by
  constructor
  · intro h
    refine ⟨List.pairwise_iff_getElem.mpr (fun i j hi hj hij he => ?_), fun q hq => ?_⟩
    · have := h.1 i j ws[i] ws[j] (List.getElem?_eq_getElem hi) (List.getElem?_eq_getElem hj) he
      omega
    · obtain ⟨i, hi⟩ := List.getElem?_of_mem hq
      exact h.2 i q hi
  · intro h
    refine ⟨fun i j p q hp hq he => ?_, fun k q hk => h.2 q (List.mem_of_getElem? hk)⟩
    obtain ⟨hi, rfl⟩ := List.getElem?_eq_some_iff.mp hp
    obtain ⟨hj, rfl⟩ := List.getElem?_eq_some_iff.mp hq
    rcases Nat.lt_trichotomy i j with g | g | g
    · exact absurd he (List.pairwise_iff_getElem.mp h.1 i j hi hj g)
    · exact g
    · exact absurd he.symm (List.pairwise_iff_getElem.mp h.1 j i hj hi g)
theorem va_D.perm {A : Nat → Prop} {ws ws' : va_W} (h : va_D A ws) (hp : ws.Perm ws') : va_D A ws' := by
  rw [va_D.pw] at h ⊢
  exact ⟨(hp.pairwise_iff (fun h => Ne.symm h)).mp h.1, fun q hq => h.2 q (hp.mem_iff.mpr hq)⟩
theorem va_D.left {A : Nat → Prop} {w1 w2 : va_W} (h : va_D A (w1 ++ w2)) : va_D A w1 := by
  rw [va_D.pw] at h ⊢
  exact ⟨(List.pairwise_append.mp h.1).1, fun q hq => h.2 q (List.mem_append_left _ hq)⟩
theorem va_D.right {A : Nat → Prop} {w1 w2 : va_W} (h : va_D A (w1 ++ w2)) : va_D A w2 := by
  rw [va_D.pw] at h ⊢
  exact ⟨(List.pairwise_append.mp h.1).2.1, fun q hq => h.2 q (List.mem_append_right _ hq)⟩
theorem va_P.left {D : va_G} {cl : List vw_C} {w1 w2 : va_W} {H : Heap} (h : va_P D cl (w1 ++ w2) H) : va_P D cl w1 H := va_P.of (fun _ hq => h.mem (List.mem_append_left _ hq))
theorem va_P.right {D : va_G} {cl : List vw_C} {w1 w2 : va_W} {H : Heap} (h : va_P D cl (w1 ++ w2) H) : va_P D cl w2 H := va_P.of (fun _ hq => h.mem (List.mem_append_right _ hq))
/-- what is only read stays -/
theorem xro {D : va_G} {cl : List vw_C} {ro : va_W} {A : Nat → Prop} {H0 H : Heap} {locs : List Loc} (h : va_P D cl ro H0) (hap : ∀ q ∈ ro, ¬ A q.1) (hS : va_S A H0 H locs) : va_P D cl ro H := va_P.of (fun q hq => (h.mem hq).kept (hS.2.1 q.1 (h.mem hq).lt (hap q hq)))
/-- the frame of a call's cells: they lie in the caller's -/
theorem xfree {A : Nat → Prop} {wc wr : va_W} {H0 H : Heap} {locs : List Loc} (hD : va_D A (wc ++ wr)) (hS : va_S A H0 H locs) (hA : ∀ q, H0.size ≤ q → A q) : ∀ q, va_A wc H.size q → A q := by
  intro q h
  rcases h with ⟨k, e, h⟩ | h
  · exact hD.left.2 k (q, e) h
  · exact hA q (Nat.le_trans hS.1 h)
/-- the rest of the caller's cells lies apart from the call's -/
theorem xrest {A : Nat → Prop} {D : va_G} {cl : List vw_C} {wc wr : va_W} {H : Heap} (hP : va_P D cl (wc ++ wr) H) (hD : va_D A (wc ++ wr)) : ∀ q ∈ wr, ¬ va_A wc H.size q.1 := by
  intro q hq h
  rcases h with ⟨k, e, h⟩ | h
  · rw [va_D.pw] at hD
    exact (List.pairwise_append.mp hD.1).2.2 _ (List.mem_of_getElem? h) q hq rfl
  · have := (hP.mem (List.mem_append_right wc hq)).lt
    omega
theorem xjoin {A : Nat → Prop} {D : va_G} {cl : List vw_C} {wc wr w : va_W} {H H1 : Heap} (hP : va_P D cl (wc ++ wr) H) (hD : va_D A (wc ++ wr)) (hF : ∀ q, va_A wc H.size q → A q) (hk : ∀ q : Nat, q < H.size → ¬ va_A wc H.size q → H1[q]? = H[q]?) (hP1 : va_P D cl w H1) (hD1 : va_D (va_A wc H.size) w) : va_P D cl (w ++ wr) H1 ∧ va_D A (w ++ wr) := by
  have hr := xrest hP hD
  refine ⟨hP1.app (va_P.of (fun q hq => (hP.right.mem hq).kept (hk q.1 (hP.right.mem hq).lt (hr q hq)))), va_D.app (hD1.weaken (fun k q _ h => hF q.1 h)) hD.right (fun i j x y hx hy hxy => ?_)⟩
  exact hr y (List.mem_of_getElem? hy) (by rw [← hxy]; exact hD1.2 i x hx)
/-- the callee's start holds: its cells wc, what it reads alone (out of the rest, or out of what the caller reads alone) -/
theorem xpre {E : xE} {A : Nat → Prop} {s : State} {wc wr ro ro1 : va_W} {H : Heap} {locs : List Loc} {av : List Value} (hev : xEv E s) (hz : xZ E A s s.heap) (hA : ∀ q : Nat, s.heap.size ≤ q → A q) (hP : va_P E.1 vwCl (wc ++ wr) H) (hD : va_D A (wc ++ wr)) (hS : va_S A s.heap H locs) (hR0 : va_P E.1 vwCl ro s.heap) (hap : ∀ q ∈ ro, ¬ A q.1) (is : List Nat) (hro : is.map (fun i => (wr ++ ro)[i]?) = ro1.map some) :
    ∀ U : State, U.heap = H → s.WarmedH U.vm → CP E wc ro1 H.size av av.toArray U := by
  intro U hU hW
  have hF := xfree hD hS hA
  have hin : ∀ q ∈ ro1, q ∈ wr ∨ q ∈ ro := fun q hq => by
    have h1 : some q ∈ ro1.map some := List.mem_map.mpr ⟨q, hq, rfl⟩
    rw [← hro] at h1
    obtain ⟨i, -, hi⟩ := List.mem_map.mp h1
    exact List.mem_append.mp (List.mem_of_getElem? hi)
  have hz1 : xZ E (va_A wc H.size) s H := (hz.kept (fun a h1 h2 => hS.2.1 a h1 h2)).narrow hF
  have hro1 : va_P E.1 vwCl ro1 H := va_P.of (fun q hq => by
    rcases hin q hq with h | h
    · exact hP.right.mem h
    · exact (xro hR0 hap hS).mem h)
  refine ⟨rfl, by rw [hU], by rw [hU]; exact hP.left, by rw [hU]; exact hro1, hD.left.weaken (fun _ _ _ _ => trivial), fun q hq => ?_, hev.warm hW, by rw [hU]; exact hz1.moved hW.alike⟩
  · rcases hin q hq with h | h
    · exact xrest hP hD q h
    · exact fun h9 => hap q h (hF _ h9)
