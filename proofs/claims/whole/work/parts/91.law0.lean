/-! THE LAW'S WALK: its ground, its arguments -/
abbrev lA (s : State) : Nat → Prop := fun q => s.heap.size ≤ q
/-- what stays over the whole walk -/
def LG (p : Program) (s : State) (m : MethodId) (c : Code) (b L : Nat) (xs : Nat → Int32) (E : xE) : Prop := p.tables.exec = Jvm.exec ∧ c.code = cL_law ∧ c.maxLocals = 7 ∧ s.vm.findClass RL = some m.cls ∧ (∀ w ∈ lw_tbl, w.before #[Value.ref b] s = true) ∧ (va_X b L xs s s.heap ∧ b < s.heap.size ∧ L ≤ 2560) ∧ xEv E s ∧ xZ E (lA s) s s.heap
def lng (a b : Int32) : Int64 := (a.toInt64 <<< ((32 : Int32).toInt64 &&& 63)) ||| (b.toInt64 &&& 4294967295)
def b01 (a : Int32) : Int32 := if a = 0 then 0 else 1
section LA
variable {p : Program} {l : Launch} {e : Env} {R : Room} {s : State} {m : MethodId} {below : List Frame} {meth : Method} {c : Code} {H : Heap} {locs : List Loc} {cells slots : Nat} {Q : State → Prop} {b L : Nat} {xs : Nat → Int32} {E : xE} {ls : Array Slot} {rest : List Value} {lv : List (Nat × Value)} {i pc : Nat}
theorem la_i (G : LG p s m c b L xs E) (hS : va_S (lA s) s.heap H locs) (hl : lv_has ls 7 ((0, .ref b) :: lv)) (hl4 : ls[4]? = some (.val (.int (nI i)))) {k : Nat} {n : Int} (hn : Int32.ofInt n = nI k) (hk : i + k < L) (d1 : decode cL_law pc = .ok (.aload_n 0, 1)) (d2 : decode cL_law (pc + 1) = .ok (.iload 4, 2)) (d3 : decode cL_law (pc + 3) = .ok (.iconst n, 1)) (d4 : decode cL_law (pc + 4) = .ok (.iadd, 1)) (d5 : decode cL_law (pc + 5) = .ok (.iaload, 1))
    (kk : W p l e R s m #[Value.ref b] below meth c H locs cells slots Q (F0 m (pc + 6) ls (.int (xs (i + k)) :: rest))) : W p l e R s m #[Value.ref b] below meth c H locs cells slots Q (F0 m pc ls rest) := by
  obtain ⟨hx, hb, hml, hown, hts, ⟨hX, hbl, hL⟩, hev, hz⟩ := G
  refine lv_aload_n hx hb d1 rfl (lv_at hl 0 rfl) ?_
  refine lv_iload hx hb d2 hl4 ?_
  refine lv_iconst hx hb d3 hn ?_
  refine lv_iadd hx hb d4 ?_
  refine xtop (nI_add i k) ?_
  refine va_sld hx hb hX hbl (fun z => absurd hbl (Nat.not_lt.mpr z)) hS (vp_in_nI hk (by omega)) d5 ?_
  rw [nI_clamp (by omega)]
  exact kk
theorem la_l (G : LG p s m c b L xs E) (hS : va_S (lA s) s.heap H locs) (hl : lv_has ls 7 ((0, .ref b) :: lv)) (hl4 : ls[4]? = some (.val (.int (nI i)))) {k : Nat} {n n' : Int} (hn : Int32.ofInt n = nI k) (hn' : Int32.ofInt n' = nI (k + 1)) (hk : i + (k + 1) < L) (d1 : decode cL_law pc = .ok (.aload_n 0, 1)) (d2 : decode cL_law (pc + 1) = .ok (.iload 4, 2)) (d3 : decode cL_law (pc + 3) = .ok (.iconst n, 1)) (d4 : decode cL_law (pc + 4) = .ok (.iadd, 1)) (d5 : decode cL_law (pc + 5) = .ok (.iaload, 1)) (d6 : decode cL_law (pc + 6) = .ok (.i2l, 1)) (d7 : decode cL_law (pc + 7) = .ok (.bipush 32, 2)) (d8 : decode cL_law (pc + 9) = .ok (.lshl, 1))
    (f1 : decode cL_law (pc + 10) = .ok (.aload_n 0, 1)) (f2 : decode cL_law (pc + 10 + 1) = .ok (.iload 4, 2)) (f3 : decode cL_law (pc + 10 + 3) = .ok (.iconst n', 1)) (f4 : decode cL_law (pc + 10 + 4) = .ok (.iadd, 1)) (f5 : decode cL_law (pc + 10 + 5) = .ok (.iaload, 1)) (f6 : decode cL_law (pc + 16) = .ok (.i2l, 1)) (f7 : decode cL_law (pc + 17) = .ok (.ldc2_w 19, 3)) (f8 : decode cL_law (pc + 20) = .ok (.land, 1)) (f9 : decode cL_law (pc + 21) = .ok (.lor, 1))
    (kk : W p l e R s m #[Value.ref b] below meth c H locs cells slots Q (F0 m (pc + 22) ls (.long (lng (xs (i + k)) (xs (i + (k + 1)))) :: rest))) : W p l e R s m #[Value.ref b] below meth c H locs cells slots Q (F0 m pc ls rest) := by
  refine la_i G hS hl hl4 hn (by omega) d1 d2 d3 d4 d5 ?_
  have G0 := G
  obtain ⟨hx, hb, hml, hown, hts, ⟨hX, hbl, hL⟩, hev, hz⟩ := G
  have hcl := hts (.constantLong RL 19 4294967295) (wsL_law_all _ (by decide +kernel))
  refine lv_i2l (v := (xs (i + k)).toInt64) hx hb d6 rfl ?_
  refine lv_bipush (v := 32) hx hb d7 (by decide) ?_
  refine lv_lshl (v := (xs (i + k)).toInt64 <<< ((32 : Int32).toInt64 &&& 63)) hx hb d8 rfl ?_
  refine la_i G0 hS hl hl4 hn' hk f1 f2 f3 f4 f5 ?_
  refine lv_i2l (v := (xs (i + (k + 1))).toInt64) hx hb f6 rfl ?_
  refine lv_ldc2 hx hb hown hcl f7 ?_
  refine lv_land hx hb f8 ?_
  refine lv_lor hx hb f9 ?_
  exact kk
theorem la_b (G : LG p s m c b L xs E) (hS : va_S (lA s) s.heap H locs) (hl : lv_has ls 7 ((0, .ref b) :: lv)) (hl4 : ls[4]? = some (.val (.int (nI i)))) {k : Nat} {n : Int} (hn : Int32.ofInt n = nI k) (hk : i + k < L) (d1 : decode cL_law pc = .ok (.aload_n 0, 1)) (d2 : decode cL_law (pc + 1) = .ok (.iload 4, 2)) (d3 : decode cL_law (pc + 3) = .ok (.iconst n, 1)) (d4 : decode cL_law (pc + 4) = .ok (.iadd, 1)) (d5 : decode cL_law (pc + 5) = .ok (.iaload, 1)) (d6 : decode cL_law (pc + 6) = .ok (.ifCond .eq 7, 3)) (d7 : decode cL_law (pc + 9) = .ok (.iconst 1, 1)) (d8 : decode cL_law (pc + 10) = .ok (.goto 4, 3)) (d9 : decode cL_law (pc + 13) = .ok (.iconst 0, 1))
    (kk : W p l e R s m #[Value.ref b] below meth c H locs cells slots Q (F0 m (pc + 14) ls (.int (b01 (xs (i + k))) :: rest))) : W p l e R s m #[Value.ref b] below meth c H locs cells slots Q (F0 m pc ls rest) := by
  refine la_i G hS hl hl4 hn hk d1 d2 d3 d4 d5 ?_
  obtain ⟨hx, hb, hml, hown, hts, ⟨hX, hbl, hL⟩, hev, hz⟩ := G
  refine lv_if_eq (tgt := pc + 13) hx hb d6 (by omega) (fun h0 => ?_) (fun h0 => ?_)
  · refine lv_iconst (v := 0) hx hb d9 (by decide) ?_
    have e : b01 (xs (i + k)) = 0 := if_pos h0
    rw [e] at kk
    exact kk
  · refine lv_iconst (v := 1) hx hb d7 (by decide) ?_
    refine lv_goto (tgt := pc + 14) hx hb d8 (by omega) ?_
    have e : b01 (xs (i + k)) = 1 := if_neg h0
    rw [e] at kk
    exact kk
end LA
/-- the walk goes on behind a case -/
def lKK (p : Program) (l : Launch) (e : Env) (s : State) (m : MethodId) (below : List Frame) (meth : Method) (c : Code) (Q : State → Prop) (b : Nat) (E : xE) (ax : Nat → Nat) (mo : Nat) (ad : Nat → Nat) (o i cells slots : Nat) : Prop := ∀ (H1 : Heap) (locs1 : List Loc) (cells1 slots1 : Nat) (w w' : va_W) (fo : Nat → Int64) (ls1 : Array Slot), LI E ax mo ad w w' → va_P E.1 vwCl (w ++ (w' ++ [(o, aJ E 1 fo)])) H1 → va_D (lA s) (w ++ (w' ++ [(o, aJ E 1 fo)])) → va_S (lA s) s.heap H1 locs1 → lv_has ls1 7 [(0, .ref b), (1, .ref (ax 0)), (2, .ref mo), (3, .ref o), (4, .int (nI i))] → cells1 ≤ cells + 13 → slots1 ≤ slots + 96 → W p l e room_1 s m #[Value.ref b] below meth c H1 locs1 cells1 slots1 Q (F0 m 1087 ls1 [])
theorem pca {A B C : va_W} : (A ++ (B ++ C)).Perm (B ++ (A ++ C)) := by
  rw [← List.append_assoc, ← List.append_assoc]
  exact List.perm_append_comm.append_right C
