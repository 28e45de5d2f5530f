/-! THE LAW'S OWN digest: it catches -/
theorem dL_digest_0 : decode cL_digest 0 = .ok (.aload_n 2, 1) := by decide +kernel
theorem dL_digest_1 : decode cL_digest 1 = .ok (.iconst 0, 1) := by decide +kernel
theorem dL_digest_2 : decode cL_digest 2 = .ok (.aload_n 0, 1) := by decide +kernel
theorem dL_digest_3 : decode cL_digest 3 = .ok (.iload_n 1, 1) := by decide +kernel
theorem dL_digest_4 : decode cL_digest 4 = .ok (.invokevirtual 7, 3) := by decide +kernel
theorem dL_digest_7 : decode cL_digest 7 = .ok (.i2l, 1) := by decide +kernel
theorem dL_digest_8 : decode cL_digest 8 = .ok (.lastore, 1) := by decide +kernel
theorem dL_digest_9 : decode cL_digest 9 = .ok (.goto 6, 3) := by decide +kernel
theorem dL_digest_12 : decode cL_digest 12 = .ok (.astore_n 3, 1) := by decide +kernel
theorem dL_digest_13 : decode cL_digest 13 = .ok (.iconst 1, 1) := by decide +kernel
theorem dL_digest_14 : decode cL_digest 14 = .ok (.ireturn, 1) := by decide +kernel
theorem dL_digest_15 : decode cL_digest 15 = .ok (.iconst 0, 1) := by decide +kernel
theorem dL_digest_16 : decode cL_digest 16 = .ok (.ireturn, 1) := by decide +kernel
/-- words that stay where the tables have grown warmer -/
theorem wordF {args a' : Array Value} {s U : State} (hW : s.WarmedH U.vm) {w : Cond} (hg : (w.onTables && w.keepsFace) = true) (h : w.before args s = true) : w.before a' U = true := by
  simp only [Bool.and_eq_true] at hg
  have h1 := Cond.before_shiftedFace (State.Shifted.of_warmed hW) w hg.2 h
  have h2 : w.before a' (U.setVm U.vm) = true := by
    rw [Cond.onTables_vm (A' := args) (U' := s) U.vm w hg.1]
    exact h1
  rwa [State.setVm_self] at h2
def wsLD : List Cond := .codeWith yL_digest cL_digest 4 (some .int) [(0, 9, 12, 13)] :: ([.methodLink RL 7 yX7_digest, .instanceMethod yX7_digest, .selects RX7 yX7_digest yX7_digest, .initialized RX7, .classLink RL 13 RJx00060, .castable RJx00060 RJx00060] ++ (wsX7_digest ++ wsD))
theorem gL_digest_X7_digest : GoodIn wsLD (wsV RL 7 RX7 yX7_digest wsX7_digest) := goodIn_p _ [7] rfl (by decide +kernel)
def CPd (q : Nat) (E : xE) (wr ro : va_W) (sz : Nat) (av : List Value) (a : Array Value) (U : State) : Prop := CP E wr ro sz av a U ∧ thE q (va_A wr sz) U U.heap
theorem thE.moved {q : Nat} {A : Nat → Prop} {u U : State} {H : Heap} (hW : u.WarmedH U.vm) (h : thE q A u H) : thE q A U H := ⟨vk_R.warm hW h.1, h.2.1.moved hW.alike, h.2.2.moved hW.alike⟩
theorem thE.kept {q : Nat} {A : Nat → Prop} {U : State} {H H1 : Heap} (h : thE q A U H) (hq : ∀ a : Nat, a < H.size → ¬ A a → H1[a]? = H[a]?) : thE q A U H1 := ⟨h.1, h.2.1.kept hq, h.2.2.kept hq⟩
theorem thE.narrow {q : Nat} {A B : Nat → Prop} {U : State} {H : Heap} (h : thE q A U H) (hAB : ∀ z, B z → A z) : thE q B U H := ⟨h.1, h.2.1.narrow hAB, h.2.2.narrow hAB⟩
theorem CPd.blind {q : Nat} {E : xE} {wr ro : va_W} {sz : Nat} {av : List Value} : FrameBlind (CPd q E wr ro sz av) := by
  intro a U g mk h
  exact ⟨CP.blind a U g mk h.1, vk_R.same (u := U) rfl h.2.1, h.2.2.1.moved (u := U) (Vm.Alike.refl U.vm), h.2.2.2.moved (u := U) (Vm.Alike.refl U.vm)⟩
abbrev pL_digest (E : xE) (y : Int32) (o : Nat) (fo : Nat → Int64) (fd : Nat → Int32) (r : Int32) (w : va_W) : Prop := ∃ go : Nat → Int64, w = [(o, aJ E 1 go)] ∧ ((∃ k, k < 32 ∧ y = nI k ∧ r = 0 ∧ go 0 = (by8 (jus (fd (k / 4)) (nI (24 - 8 * (k % 4))))).toInt64) ∨ (¬ isN y 32 ∧ r = 1))
abbrev rmL : Room := { frames := 8, cells := 1, slots := 6, locals := 120 }
set_option maxHeartbeats 4000000 in
set_option maxRecDepth 100000 in
theorem kL_digest (l : Launch) (htr : l.flags = pinnedFlags ++ [noTraceFlag]) (E : xE) (x rg dr rs : Nat) (nr : Int32) (c0 h td : Nat) (fd : Nat → Int32) (o : Nat) (fo : Nat → Int64) (y : Int32) (q : Nat) (sz : Nat) : Met l yL_digest wsLD rmL (CPd q E [(o, aJ E 1 fo)] [(x, .inr (8, [.ref rg, .ref dr, .ref rs, .int nr, .ref c0, .ref h, .ref td])), (td, aI E 8 fd)] sz [.ref x, .int y, .ref o]) (QI E (pL_digest E y o fo fd) (va_A [(o, aJ E 1 fo)] sz)) 1 6 (va_A [(o, aJ E 1 fo)] sz) := by
  refine MetFree.of_bodyS (code := cL_digest) (maxLocals := 4) (ret := some .int) (by decide) ?_ ?_
  · intro args s m hh hn
    obtain ⟨m', meth, c, h0, h1, h2, h3, h4, h5, h6, h7, -⟩ := Cond.codeWith_spec (atoms_spec (ws := wsLD) hh _ List.mem_cons_self)
    cases hn.symm.trans h0
    exact ⟨meth, c, h1, h2, h3, h4, h6, h7⟩
  · intro p e s m args below meth c s₁ B hml hv _
    have hts : ∀ w ∈ wsLD, w.before args s = true := atoms_spec (ws := wsLD) B.pre
    obtain ⟨m', meth', c', h0, h1, h2, -, -, h5, -, -, -⟩ := Cond.codeWith_spec (hts _ List.mem_cons_self)
    have X0 : Stand p l e rmL s m args below meth c s₁ [] 0 0 := Stand.of_body B
    cases B.named.symm.trans h0
    cases X0.method.symm.trans h1
    cases X0.code.symm.trans h2
    have htab : c.exceptionTable.toList = [⟨0, 9, 12, 13⟩] := by rw [← table_eq c.exceptionTable.toList, h5]; rfl
    obtain ⟨⟨rfl, hsz, hP, hR0, hD0, hap, hev, hz⟩, hth⟩ := hv
    subst hsz
    have hx := B.exec
    have hb := B.bytes
    have hr := B.returns
    have hlocks := B.notSynchronized
    have hown : s.vm.findClass RL = some m.cls := findClass_of_methodNamed B.named
    have hD : va_D (va_A [(o, aJ E 1 fo)] s.heap.size) [(o, aJ E 1 fo)] := hD0.self (sz := s.heap.size)
    have hA : ∀ q : Nat, s.heap.size ≤ q → va_A [(o, aJ E 1 fo)] s.heap.size q := fun q hq => Or.inr hq
    have hS : va_S (va_A [(o, aJ E 1 fo)] s.heap.size) s.heap s.heap [] := va_S.rf
    have hl0 := lv_entry [.ref x, .int y, .ref o] (n := 4) (Nat.le_of_ble_eq_true rfl)
    have K : W p l e rmL s m ([.ref x, .int y, .ref o] : List Value).toArray below meth c s.heap [] 0 0 (MQ below (QI E (pL_digest E y o fo fd) (va_A [(o, aJ E 1 fo)] s.heap.size)) ([.ref x, .int y, .ref o] : List Value).toArray s 1 6 (va_A [(o, aJ E 1 fo)] s.heap.size)) (entryFrame m ([.ref x, .int y, .ref o] : List Value).toArray 4) := by
      rw [lg_entry_eq]
      suffices hs : ∀ ls : Array Slot, lv_has ls 4 [(0, .ref x), (1, .int y), (2, .ref o)] → W p l e rmL s m ([.ref x, .int y, .ref o] : List Value).toArray below meth c s.heap [] 0 0 (MQ below (QI E (pL_digest E y o fo fd) (va_A [(o, aJ E 1 fo)] s.heap.size)) ([.ref x, .int y, .ref o] : List Value).toArray s 1 6 (va_A [(o, aJ E 1 fo)] s.heap.size)) (F0 m 0 ls []) from hs _ hl0
      intro ls hl
      refine lv_aload_n hx hb dL_digest_0 rfl (lv_at hl 2 rfl) ?_
      refine lv_iconst (v := 0) hx hb dL_digest_1 (by decide) ?_
      refine lv_aload_n hx hb dL_digest_2 rfl (lv_at hl 0 rfl) ?_
      refine lv_iload_n hx hb dL_digest_3 rfl (lv_at hl 1 rfl) ?_
      by_cases hy : isN y 32
      · obtain ⟨k, hk, rfl⟩ := hy
        have hP2 : va_P E.1 vwCl ([] ++ [(o, aJ E 1 fo)]) s.heap := hP
        have hD2 : va_D (va_A [(o, aJ E 1 fo)] s.heap.size) ([] ++ [(o, aJ E 1 fo)]) := hD
        refine xci (va_runV (As := [.int (nI k)]) (rest := [.int 0, .ref o]) ⟨hx, hb, hml, hown, hts⟩ (kX7_digest l E x rg dr rs nr c0 h td fd k hk s.heap.size) (cwV 1 hts gL_digest_X7_digest rfl rfl rfl (by decide +kernel) ⟨Nat.le_of_ble_eq_true rfl, Nat.le_of_ble_eq_true rfl⟩) ⟨CP.blind, (va_recv hev.1 (xro hR0 hap hS) (ci := 8) (q0 := 0) rfl rfl), (xpre hev hz hA hP2 hD2 hS hR0 hap [1, 2] rfl)⟩ rfl rfl hl.1 rfl (lv_room (Nat.le_of_ble_eq_true rfl)) dL_digest_4 ⟨Nat.le_of_ble_eq_true rfl, Nat.le_of_ble_eq_true rfl⟩) hP2 hD2 hS hA (fun r1 w2 H locs h3 hP hD hS => ?_)
        obtain ⟨rfl, rfl⟩ := h3
        have hP : va_P E.1 vwCl [(o, aJ E 1 fo)] H := hP
        have hD : va_D (va_A [(o, aJ E 1 fo)] s.heap.size) [(o, aJ E 1 fo)] := hD
        refine lv_i2l (v := (by8 (jus (fd (k / 4)) (nI (24 - 8 * (k % 4))))).toInt64) hx hb dL_digest_7 rfl ?_
        refine xlast (k := 0) hx hb hev.1 hP hD hS 0 2 rfl rfl (by decide) (by decide) dL_digest_8 (fun H locs hP hD hS => ?_)
        refine lv_goto (tgt := 15) hx hb dL_digest_9 (by decide) ?_
        refine lv_iconst (v := 0) hx hb dL_digest_15 (by decide) ?_
        refine W.widen (k := 1) (n := 6) (by decide) (by decide) ?_
        refine xri hx hb hr hlocks hP hD hS ⟨_, rfl, Or.inl ⟨k, hk, rfl, rfl, rfl⟩⟩ dL_digest_16
      · refine xcatch hx hb (dT l htr x q y hy) hown (hts _ (List.mem_of_getElem? (i := 1) rfl)) (hts _ (List.mem_of_getElem? (i := 2) rfl)) (hts _ (List.mem_of_getElem? (i := 3) rfl)) (hts _ (List.mem_of_getElem? (i := 4) rfl)) (fun w hw => hts w (List.mem_cons_of_mem _ (List.mem_append_right _ (List.mem_append_right _ hw)))) (hts _ (List.mem_of_getElem? (i := 5) rfl)) (hts _ (List.mem_of_getElem? (i := 6) rfl)) htab (hl.1.trans hml.symm) (va_recv hev.1 (xro hR0 hap hS) (ci := 8) (q0 := 0) rfl rfl) (fun U hU hW => ?_) (by decide) (Nat.le_of_ble_eq_true rfl) (by decide) (by decide) dL_digest_4 (by decide) (fun a H1 g1 g2 => ?_)
        · rw [hU]
          exact (hth.narrow (fun _ hf => hf.elim)).moved hW
        · have hS1 : va_S (va_A [(o, aJ E 1 fo)] s.heap.size) s.heap H1 [] := ⟨g1, fun q h1 _ => g2 q h1, fun _ hq => by cases hq⟩
          have hP1 : va_P E.1 vwCl [(o, aJ E 1 fo)] H1 := va_P.of (fun z hz => (hP.mem hz).kept (g2 _ (hP.mem hz).lt))
          refine lv_astore_n (lv' := [(3, .ref a), (0, .ref x), (1, .int y), (2, .ref o)]) hx hb dL_digest_12 rfl hl (by decide) rfl (fun ls hl => ?_)
          refine lv_iconst (v := 1) hx hb dL_digest_13 (by decide) ?_
          refine xri hx hb hr hlocks hP1 hD hS1 ⟨fo, rfl, Or.inr ⟨hy, rfl⟩⟩ dL_digest_14
    obtain ⟨t, a1, oo, b1, b2, b3⟩ := K s₁ (by rw [B.state]; rfl) X0
    exact ⟨t, oo, a1, b1, b2, ⟨b3.1, b3.2⟩⟩
