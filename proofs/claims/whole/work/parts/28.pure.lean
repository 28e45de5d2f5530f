section XCT
variable {p : Program} {l : Launch} {e : Env} {R : Room} {s : State} {m : MethodId} {args : Array Value} {below : List Frame} {meth : Method} {c : Code} {H : Heap} {locs : List Loc} {cells slots : Nat} {Q : State → Prop}
variable {cc : ByteArray} {pc : Nat} {ls : Array Slot} {rest : List Value} {D : va_G} {cl : List vw_C} {A : Nat → Prop} {a : Nat} {tys : List (ClassId × FieldType)} {ws : va_W}
/-- System.arraycopy of the first eight ints of a constant array -/
theorem xcopyT (hexec : p.tables.exec = Jvm.exec) (hb : c.code = cc) (hml : c.maxLocals = ls.size) {own : String} {index : Nat} (hown : s.vm.findClass own = some m.cls) (hlink : (Cond.methodLink own index arraycopyName).before args s = true) (hnat : (Cond.native arraycopyName).before args s = true) (hstat : (Cond.static arraycopyName).before args s = true) (hini : (Cond.initialized "java/lang/System").before args s = true)
    (hK : va_K D cl tys s) (hP : va_P D cl ws H) (hD : va_D A ws) (hS : va_S A s.heap H locs) {b0 : Nat} {f : Nat → Int32} (hX : va_T .int b0 8 (fun j => .int (f j)) A s s.heap) (q1 t1 : Nat) {c1 : ClassId} {g : Nat → Int32} (ha1 : ws[q1]? = some (a, .inl (c1, 8, .inl g))) (ht1 : tys[t1]? = some (c1, .int))
    (hframes : 1 ≤ R.frames) (hlocals : (rest.map fun v => v.category).sum + (nativeFrameWords "java/lang/System" "arraycopy" 5 + 11) ≤ R.locals) (hdg : decode cc pc = .ok (.invokestatic index, 3))
    (kk : ∀ (H1 : Heap) (locs1 : List Loc), va_P D cl (ws.set q1 (a, .inl (c1, 8, .inl (va_cpy f g 0 0 8)))) H1 → va_D A (ws.set q1 (a, .inl (c1, 8, .inl (va_cpy f g 0 0 8)))) → va_S A s.heap H1 locs1 → W p l e R s m args below meth c H1 locs1 cells slots Q (F0 m (pc + 3) ls rest)) : W p l e R s m args below meth c H locs cells slots Q (F0 m pc ls (.int 8 :: .int 0 :: .ref a :: .int 0 :: .ref b0 :: rest)) := by
  intro T hT X
  obtain ⟨scr, g1, ⟨g2, k0, hk0, cm0, hkk0⟩, g3, g4, -, g6, g7⟩ := hX
  have hc0 : H[b0]? = some scr := by rw [hS.2.1 b0 (Array.getElem?_eq_some_iff.mp g1).1 g7]; exact g1
  have hc1 : H[a]? = some (vp_cell c1 (8, .inl g)) := hP q1 _ ha1
  obtain ⟨-, k1, hk1, cm1, hkk1⟩ := (hK.2 t1 _ ht1).1 8 (fun j => .int (g j))
  have i0 : (0 : Int32).toInt = 0 := by decide
  have i8 : (8 : Int32).toInt = 8 := by decide
  have z0 : (0 : Int32).toNatClampNeg = 0 := by decide
  have z8 : (8 : Int32).toNatClampNeg = 8 := by decide
  obtain ⟨vm', X', step⟩ := X.arraycopy hexec hown hlink hnat hstat hini (src := b0) (dst := a) (cs := scr) (cd := vp_cell c1 (8, .inl g)) (srcPos := 0) (destPos := 0) (n := 8) (by rw [hT]; exact hc0) (by rw [hT]; exact hc1)
    g2 (fun _ h => by cases h) g3 (fun h => by cases h) hk0 hk1 hkk0 hkk1 (by simp [refKind]) (by decide) (by decide) (by decide)
    (by rw [i0, i8]; omega)
    (by rw [i0, i8]; show ¬ _ > ((arrV c1 8 (fun j => .int (g j))).slots.size : Int); rw [arrV_size]; omega)
    (fun vm₁ _ i hi => by
      rw [z8] at hi
      have e : scr.slots.getD ((0 : Int32).toNatClampNeg + i) .null = .int (f ((0 : Int32).toNatClampNeg + i)) := by
        rw [Array.getD_eq_getD_getElem?, g6 _ (by rw [z0]; omega)]
        rfl
      exact ⟨by rw [e]; rfl, by rw [e]; exact trivial⟩)
    (g := F0 m pc ls (.int 8 :: .int 0 :: .ref a :: .int 0 :: .ref b0 :: rest)) rfl (by rw [hml]) (rest := rest) rfl (by rw [hb]; exact hdg) hframes (by show 2 * 0 + _ + _ ≤ _; omega)
  have e1 : copied scr (vp_cell c1 (8, .inl g)) 0 0 8 = vp_cell c1 (8, .inl (va_cpy f g 0 0 8)) := va_copiedX (n0 := 8) (sp := 0) (dp := 0) (n := 8) (fun z => .int z) scr c1 f g g6 (by decide)
  rw [e1] at X' step
  have hl : a < H.size := (Array.getElem?_eq_some_iff.mp hc1).1
  have hheap : ((T.setVm vm').setCell a (vp_cell c1 (8, .inl (va_cpy f g 0 0 8)))).heap = H.setIfInBounds a (vp_cell c1 (8, .inl (va_cpy f g 0 0 8))) := by rw [← hT]; rfl
  have oq : ∀ q : Nat, q ≠ a → (H.setIfInBounds a (vp_cell c1 (8, .inl (va_cpy f g 0 0 8))))[q]? = H[q]? := fun q hq => by simp [Array.getElem?_setIfInBounds, Ne.symm hq]
  obtain ⟨t, a1, b1⟩ := kk _ _ (hP.set hD ha1 (show (H.setIfInBounds a _)[a]? = some _ by simp [Array.getElem?_setIfInBounds, hl]) oq) (hD.set ha1) ⟨by simp; exact hS.1, fun q h1 h2 => by
      rw [oq q (fun e => h2 (by rw [e]; exact hD.2 q1 _ ha1))]
      exact hS.2.1 q h1 h2, fun q hq => by
      rcases List.mem_append.mp hq with h | h
      · exact hS.2.2 q h
      · obtain ⟨z, -, hz⟩ := List.mem_map.mp h
        rw [← hz]
        exact hD.2 q1 _ ha1⟩ _ hheap X'
  exact ⟨t, step t a1, b1⟩
end XCT
theorem cpy8 {α : Type} {f g : Nat → α} {j : Nat} (h : j < 8) : va_cpy f g 0 0 8 j = f j := by
  unfold va_cpy
  rw [if_pos (by omega)]
  simp
theorem sch_congr {w w' : Nat → Int32} (h : ∀ t, t < 16 → w t = w' t) : ∀ t, sch w t = sch w' t := by
  intro t
  induction t using Nat.strongRecOn with
  | ind t ih =>
    by_cases ht : t < 16
    · rw [sch_lo ht, sch_lo ht, h t ht]
    · rw [sch_hi ht, sch_hi ht, ih (t - 16) (by omega), ih (t - 15) (by omega), ih (t - 7) (by omega), ih (t - 2) (by omega)]
theorem rstep_congr {r r' : Nat → Int32} {k w : Int32} (h : ∀ i, i < 8 → r i = r' i) : ∀ i, i < 8 → rstep r k w i = rstep r' k w i := by
  intro i hi
  have h0 := h 0 (by omega)
  have h1 := h 1 (by omega)
  have h2 := h 2 (by omega)
  have h3 := h 3 (by omega)
  have h4 := h 4 (by omega)
  have h5 := h 5 (by omega)
  have h6 := h 6 (by omega)
  have h7 := h 7 (by omega)
  rcases (show i = 0 ∨ i = 1 ∨ i = 2 ∨ i = 3 ∨ i = 4 ∨ i = 5 ∨ i = 6 ∨ i = 7 by omega) with rfl | rfl | rfl | rfl | rfl | rfl | rfl | rfl <;> simp only [rstep, one, h0, h1, h2, h3, h4, h5, h6, h7]
theorem rst_congr2 {s s' w w' : Nat → Int32} (hs : ∀ i, i < 8 → s i = s' i) : ∀ {n : Nat}, (∀ t, t < n → w t = w' t) → ∀ i, i < 8 → rst s w n i = rst s' w' n i := by
  intro n
  induction n with
  | zero => intro _ i hi; exact hs i hi
  | succ n ih =>
    intro h i hi
    simp only [rst]
    rw [h n (by omega)]
    exact rstep_congr (ih (fun t ht => h t (by omega))) i hi
theorem blk_congr {s s' w w' : Nat → Int32} (hs : ∀ i, i < 8 → s i = s' i) (hw : ∀ t, t < 16 → w t = w' t) : ∀ i, i < 8 → blk s w i = blk s' w' i := by
  intro i hi
  unfold blk
  rw [hs i hi, rst_congr2 hs (fun t _ => sch_congr hw t) i hi]
theorem wd_congr {f g : Nat → Int32} {b e : Nat} (h : ∀ j, j < e → g j = f j) (hb : b + 64 ≤ e) : ∀ t, t < 16 → wd g b t = wd f b t := by
  intro t ht
  unfold wd
  rw [h _ (by omega), h _ (by omega), h _ (by omega), h _ (by omega)]
/-- one block of the machine's work is blk -/
theorem blk_of {fa ga gc g f s : Nat → Int32} {b e : Nat} (h1 : ∀ i, i < 8 → ga i = fa i + rst fa gc 64 i) (h2 : ∀ t, t < 64 → gc t = sch (wd g b) t) (h3 : ∀ j, j < e → g j = f j) (hb : b + 64 ≤ e) (hs : ∀ i, i < 8 → fa i = s i) : ∀ i, i < 8 → ga i = blk s (wd f b) i := by
  intro i hi
  rw [h1 i hi, ← blk_congr hs (wd_congr h3 hb) i hi]
  unfold blk
  rw [rst_congr2 (fun _ _ => rfl) h2 i hi]
theorem ap_snoc {f g : Nat → Int32} {n k : Nat} {L M : List Int32} (h : g = ap f n L) (hk : L.length = k) : ap g (n + k) M = ap f n (L ++ M) := by
  rw [h, ap_app, hk]
/-- k items of a byte and four -/
def rosB (fb fi : Nat → Int32) : Nat → List Int32
  | 0 => []
  | k + 1 => rosB fb fi k ++ ([by8 (fb k)] ++ bI (fi k))
theorem rosB_len (fb fi : Nat → Int32) (k : Nat) : (rosB fb fi k).length = 5 * k := by
  induction k with
  | zero => rfl
  | succ k ih => simp only [rosB, List.length_append, ih, bI, List.length_cons, List.length_nil]; omega
def delB (fp ft fe : Nat → Int32) : Nat → List Int32
  | 0 => []
  | k + 1 => delB fp ft fe k ++ (bI (fp k) ++ ([by8 (ft k)] ++ [by8 (if fe k = 0 then 0 else 1)]))
theorem delB_len (fp ft fe : Nat → Int32) (k : Nat) : (delB fp ft fe k).length = 6 * k := by
  induction k with
  | zero => rfl
  | succ k ih => simp only [delB, List.length_append, ih, bI, List.length_cons, List.length_nil]; omega
def pthB (f : Nat → Int32) : Nat → List Int32
  | 0 => []
  | k + 1 => pthB f k ++ bI (f k)
theorem pthB_len (f : Nat → Int32) (k : Nat) : (pthB f k).length = 4 * k := by
  induction k with
  | zero => rfl
  | succ k ih => simp only [pthB, List.length_append, ih, bI, List.length_cons, List.length_nil]; omega
def octB (f : Nat → Int32) : Nat → List Int32
  | 0 => []
  | k + 1 => octB f k ++ [by8 (f k)]
theorem octB_len (f : Nat → Int32) (k : Nat) : (octB f k).length = k := by
  induction k with
  | zero => rfl
  | succ k ih => simp only [octB, List.length_append, ih, List.length_cons, List.length_nil]
theorem bL_len (x : Int64) : (bL x).length = 8 := rfl
