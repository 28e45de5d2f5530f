/-! THE LAW: the case of digest -/
theorem va_runW {p : Program} {l : Launch} {e : Env} {R : Room} {s : State} {m : MethodId} {args : Array Value} {below : List Frame} {meth : Method} {c : Code} {H : Heap} {locs : List Loc} {cells slots : Nat} {y : MethodName} {bytes cc : ByteArray} {maxL nL mc ms index : Nat} {ret : Option FieldType} {hd : List (Nat × Nat × Nat × Nat)} {ws : List Cond} {rm : Room} {Pc : Array Value → State → Prop} {Qc : Array Value → State → Outcome → State → Prop} {free : Addr → Prop} {own : String} {As rest : List Value} {g : JFrame}
    (hx : p.tables.exec = Jvm.exec) (hb : c.code = cc) (hml : c.maxLocals = nL) (hown : s.vm.findClass own = some m.cls) (hM : Met l y ws rm Pc Qc mc ms free) (hrc : rm.cells = mc) (hrs : rm.slots = ms) (hfr : rm.frames + 1 ≤ R.frames) (hlo : 8 + (maxL + 11) + rm.locals ≤ R.locals) (hws : ∀ w ∈ ws, ∀ (a' : Array Value) (U : State), s.WarmedH U.vm → w.before a' U = true) (hws0 : ∀ w ∈ ws, w.before args s = true) (hcode : Cond.codeWith y bytes maxL ret hd ∈ ws) (hini : (Cond.initialized y.cls).before args s = true) (hlink : (Cond.methodLink own index y).before args s = true) (hstat : (Cond.static y).before args s = true) (hy : y.cls ≠ "java/lang/invoke/MethodHandle" ∧ y.cls ≠ "java/lang/invoke/VarHandle") (hlen : ∀ sig, parseMethodDescriptor y.desc = some sig → As.length = sig.parameters.length)
    (hbl : FrameBlind Pc) (hPc : ∀ U : State, U.heap = H → s.WarmedH U.vm → Pc As.toArray U) (hg : g.method = m) (hsize : g.locals.size = nL) (hstack : g.stack = As.reverse ++ rest) (hW : 2 * g.monitorRoom + (rest.map fun v => v.category).sum ≤ 8) (hdg : decode cc g.pc = .ok (.invokestatic index, 3)) (hc : cells + mc ≤ R.cells) (hs : slots + ms ≤ R.slots) : va_Run p l e R s m args below meth c H locs cells slots mc ms g rest (Qc As.toArray) free := by
  intro T hT X
  obtain ⟨mk, methM, cM, hnamed, hmethM, -, -, -, -, -, -, hsigM⟩ := Cond.codeWith_spec (hws0 _ hcode)
  have hstatic : methM.isStatic = true := Cond.static_spec hnamed hmethM hstat
  obtain ⟨kP, hkP, -⟩ := className_of_methodNamed hnamed
  have hinitP : kP.init = .initialized := Cond.initialized_spec (findClass_of_methodNamed hnamed) hkP hini
  have hsz : g.locals.size = c.maxLocals := hsize.trans hml.symm
  have hdg1 : decode c.code g.pc = .ok (.invokestatic index, 3) := by rw [hb]; exact hdg
  obtain ⟨vm₁, X₁, hstep₁⟩ := X.invokestatic hx hown hlink hnamed hmethM hstatic hkP hinitP hy (g := g) hg (argsL := As) (rest := rest) (hlen _ hsigM) hstack hdg1
  have hn1 := X₁.named hnamed
  obtain ⟨m1, methY, cY, hn2, hmY, hcY, -, hlY, -, -, -, -⟩ := Cond.codeWith_spec (hws _ hcode As.toArray (T.setVm vm₁) X₁.warmed)
  cases hn1.symm.trans hn2
  obtain ⟨kY, hkY, -⟩ := className_of_methodNamed hn1
  have hinitY : kY.init = .initialized := Cond.initialized_spec (args := As.toArray) (findClass_of_methodNamed hn1) hkY (word_at X₁.warmed (Or.inl (by first | rfl | simp [Cond.onTables, Cond.keeps, Cond.steady])) hini)
  subst hg
  have hAt : At (T.setVm vm₁) ({ g with stack := rest } : JFrame).method c below := X₁.here
  have happ : (headSpec ws rm).appliesLoose y e.platform ((T.setVm vm₁).calling ({ g with stack := rest } : JFrame) mk As.toArray) = true :=
    Spec.appliesLoose_calling (g := ({ g with stack := rest } : JFrame)) hAt hdg1 hn1 hkY hinitY (X₁.room_calling (g := ({ g with stack := rest } : JFrame)) (R' := rm) hsz hmY hcY hfr (by rw [hlY]; show 2 * g.monitorRoom + (rest.map fun v => v.category).sum + _ + _ ≤ _; omega) (by rw [hrc]; exact hc) (by rw [hrs]; exact hs)) (atoms_intro fun w hw => hws w hw _ _ X₁.warmed)
  obtain ⟨mid, hmid⟩ := hAt.above
  have hfr1 : ((T.setVm vm₁).setTop ({ g with stack := rest } : JFrame)).frames = (.java ({ g with stack := rest } : JFrame) :: mid) ++ below := by rw [State.frames_setTop' _ hAt.top, hmid]; rfl
  obtain ⟨o, s₂, hsteps, -, hend, hq, L, ⟨⟨v, rfl⟩, hW2, hsame⟩, hLf⟩ := Steps.callFree hM p X.admits X.cas X.clock (acts := []) hfr1 happ (hbl _ _ _ _ (hPc (T.setVm vm₁) hT X₁.warmed)) trivial
  have hend2 : Ended s₂ (.java ({ g with stack := rest } : JFrame) :: below) (.returned v) := by
    rw [State.frames_setTop' _ hAt.top, X₁.tail] at hend
    exact hend
  obtain ⟨T', X', hW', hsame', ht⟩ := X₁.outOf (g := ({ g with stack := rest } : JFrame)) rfl hdg1 hend2 hW2 hsame
  refine ⟨v, (T.setVm vm₁).calling ({ g with stack := rest } : JFrame) mk As.toArray, s₂, T', L, hT, X', hLf, by rw [ht]; rfl, by rw [ht]; rfl, hq, fun target hgo => ?_⟩
  refine hstep₁ _ (fun acts => ?_)
  rw [doInvoke_state]
  refine hsteps.trans ?_
  rw [ht]
  exact hgo
set_option maxHeartbeats 4000000 in
set_option maxRecDepth 100000 in
theorem lc_digest {p : Program} {l : Launch} {e : Env} {s : State} {m : MethodId} {below : List Frame} {meth : Method} {c : Code} {H : Heap} {locs : List Loc} {cells slots : Nat} {Q : State → Prop} {b L : Nat} {xs : Nat → Int32} {E : xE} {ls : Array Slot} {ax : Nat → Nat} {mo : Nat} {ad : Nat → Nat} {o i : Nat} {kn nn ln : Nat} {fs fu : Nat → Int64} {gi : Nat → Nat → Int32} {ra : Nat → Nat} {pr : Nat → RowP} {ci : Nat → Option Nat} {rev sea : Int32} {th : Int32} {mn dp : Nat} {am : Nat → Nat → Int32} {al : Nat → Nat → Int64} {fo : Nat → Int64} (htr : l.flags = pinnedFlags ++ [noTraceFlag]) {q : Nat} (hth : thE q (lA s) s s.heap) (G : LG p s m c b L xs E) (hi : i + 5 ≤ L) (R0 : Rl kn nn fs fu (gi 0) (gi 1) pr ci rev (gi 5) am al) (hP : va_P E.1 vwCl (CW E ax kn nn ln fs fu gi ra pr ci rev sea ++ (MW E mo ad th kn nn mn dp am al ++ [(o, aJ E 1 fo)])) H) (hD : va_D (lA s) (CW E ax kn nn ln fs fu gi ra pr ci rev sea ++ (MW E mo ad th kn nn mn dp am al ++ [(o, aJ E 1 fo)]))) (hS : va_S (lA s) s.heap H locs) (hl : lv_has ls 7 [(0, .ref b), (1, .ref (ax 0)), (2, .ref mo), (3, .ref o), (4, .int (nI i))]) (hc : cells + 13 ≤ 601024) (hs : slots + 96 ≤ 7293034) (kk : lKK p l e s m below meth c Q b E ax mo ad o i cells slots) : W p l e room_1 s m #[Value.ref b] below meth c H locs cells slots Q (F0 m 994 ls []) := by
  have G0 := G
  obtain ⟨hx, hb, hml, hown, hts, -, hev, hz⟩ := G0
  have htl : ∀ w ∈ wsL_law, w.before #[Value.ref b] s = true := fun w hw => hts w (wsL_law_all w hw)
  have hA : ∀ q : Nat, s.heap.size ≤ q → lA s q := fun q hq => hq
  have hN : va_P E.1 vwCl ([] : va_W) s.heap := va_P.of (fun q hq => by cases hq)
  have hN2 : ∀ q ∈ ([] : va_W), ¬ lA s q.1 := fun q hq => by cases hq
  refine lv_aload_n hx hb dL_law_994 rfl (lv_at hl 1 rfl) ?_
  refine la_i G hS hl (lv_at hl 4 rfl) (k := 1) rfl (by omega) dL_law_995 dL_law_996 dL_law_998 dL_law_999 dL_law_1000 ?_
  refine lv_aload_n hx hb dL_law_1001 rfl (lv_at hl 3 rfl) ?_
  have hpm : (CW E ax kn nn ln fs fu gi ra pr ci rev sea ++ (MW E mo ad th kn nn mn dp am al ++ [(o, aJ E 1 fo)])).Perm ([(o, aJ E 1 fo)] ++ (CW E ax kn nn ln fs fu gi ra pr ci rev sea ++ MW E mo ad th kn nn mn dp am al)) := by
    rw [← List.append_assoc]
    exact List.perm_append_comm
  have hP := hP.perm hpm
  have hD := hD.perm hpm
  have hfree := xfree hD hS hA
  refine xci (va_runW (As := [.ref (ax 0), .int (xs (i + 1)), .ref o]) (rest := []) (maxL := 4) hx hb hml hown (kL_digest l htr E (ax 0) (ax 1) (ax 2) (ax 3) (nI nn) (ax 4) (ax 5) (ax 6) (gi 5) o fo (xs (i + 1)) q H.size) rfl rfl (by decide) (by decide) (fun w hw a' U hW => wordF hW (wsLD_good w hw) (hts w (wsLD_in w hw))) (fun w hw => hts w (wsLD_in w hw)) List.mem_cons_self (htl _ (by decide +kernel)) (htl _ (by decide +kernel)) (htl _ (by decide +kernel)) (by decide) (fun sig h => by
      have hp : parseMethodDescriptor yL_digest.desc = some { parameters := [.object "SignQuorum", .int, .array .long], returnType := some .int } := by decide +kernel
      rw [← Option.some.inj (hp.symm.trans h)]; rfl) CPd.blind (fun U hU hW => ⟨xpre hev hz hA hP hD hS hN hN2 [0, 14] rfl U hU hW, by
      rw [hU]
      exact ((hth.kept (fun a g1 g2 => hS.2.1 a g1 g2)).narrow hfree).moved hW⟩) rfl hl.1 rfl (lv_room (Nat.le_of_ble_eq_true rfl)) dL_law_1002 (by show cells + 1 ≤ 601024; omega) (by show slots + 6 ≤ 7293034; omega)) hP hD hS hA (fun r w H locs hp hP hD hS => ?_)
  obtain ⟨go, rfl, hp⟩ := hp
  have hpm2 : ([(o, aJ E 1 go)] ++ (CW E ax kn nn ln fs fu gi ra pr ci rev sea ++ MW E mo ad th kn nn mn dp am al)).Perm (MW E mo ad th kn nn mn dp am al ++ (CW E ax kn nn ln fs fu gi ra pr ci rev sea ++ [(o, aJ E 1 go)])) := by
    refine List.perm_append_comm.trans ?_
    rw [List.append_assoc]
    exact pca
  have hP := hP.perm hpm2
  have hD := hD.perm hpm2
  refine lv_istore (lv' := [(5, .int r), (0, .ref b), (1, .ref (ax 0)), (2, .ref mo), (3, .ref o), (4, .int (nI i))]) hx hb dL_law_1005 hl (by decide) rfl (fun ls hl => ?_)
  refine lv_aload_n hx hb dL_law_1007 rfl (lv_at hl 3 rfl) ?_
  refine la_i G hS (lv_sub hl [1] rfl) (lv_at hl 5 rfl) (lv := []) (k := 1) rfl (by omega) dL_law_1008 dL_law_1009 dL_law_1011 dL_law_1012 dL_law_1013 ?_
  refine xci (va_runV (As := [.int (xs (i + 1))]) (rest := []) ⟨hx, hb, hml, hown, htl⟩ (mw_digest l E mo ad th kn nn mn dp am al pr ci (xs (i + 1)) H.size) (cwV 1 htl gL_law_X8_digest rfl rfl rfl (by decide +kernel) ⟨by decide, by decide⟩) ⟨CP.blind, va_recv hev.1 hP (ci := 9) (q0 := 0) rfl rfl, xpre hev hz hA hP hD hS hN hN2 [] rfl⟩ rfl rfl hl.1 rfl (lv_room (Nat.le_of_ble_eq_true rfl)) dL_law_1014 ⟨(by show cells + 1 + 0 ≤ 601024; omega), (by show slots + 6 + 0 ≤ 7293034; omega)⟩) hP hD hS hA (fun r2 w2 H locs hm hP hD hS => ?_)
  obtain ⟨t2, rfl, hm⟩ := hm
  refine lv_istore (lv' := [(6, .int r2), (5, .int r), (0, .ref b), (1, .ref (ax 0)), (2, .ref mo), (3, .ref o), (4, .int (nI i))]) hx hb dL_law_1017 hl (by decide) rfl (fun ls hl => ?_)
  refine lv_aload_n hx hb dL_law_1019 rfl (lv_at hl 4 rfl) ?_
  refine xci (va_runV (As := []) (rest := []) ⟨hx, hb, hml, hown, htl⟩ (mw_thrown l E mo ad t2 kn nn mn dp am al H.size) (cwV 0 htl gL_law_X8_thrown rfl rfl rfl (by decide +kernel) ⟨by decide, by decide⟩) ⟨CP.blind, va_recv hev.1 hP (ci := 9) (q0 := 0) rfl rfl, xpre hev hz hA hP hD hS hN hN2 [] rfl⟩ rfl rfl hl.1 rfl (lv_room (Nat.le_of_ble_eq_true rfl)) dL_law_1020 ⟨(by show cells + 1 + 0 + 0 ≤ 601024; omega), (by show slots + 6 + 0 + 0 ≤ 7293034; omega)⟩) hP hD hS hA (fun r3 w3 H locs h3 hP hD hS => ?_)
  obtain ⟨rfl, rfl⟩ := h3
  have hP := hP.perm pca
  have hD := hD.perm pca
  have hl5 := lv_sub hl [2, 3, 4, 5, 6] rfl
  have hLI : LI E ax mo ad (CW E ax kn nn ln fs fu gi ra pr ci rev sea) (MW E mo ad r3 kn nn mn dp am al) := LI.mk R0
  refine lv_iload hx hb dL_law_1023 (lv_at hl 1 rfl) ?_
  have key : (r = 0 ∧ r3 = 0 ∧ go 0 = r2.toInt64) ∨ (r = 1 ∧ r3 = 1) := by
    rcases hp with ⟨k, a1, a2, a3, a4⟩ | ⟨a1, a2⟩
    · rcases hm with ⟨k', b1, b2, b3, b4⟩ | ⟨b1, -⟩
      · have ek : k = k' := (nI_eq (by omega) (by omega)).mp (a2.symm.trans b2)
        subst ek
        exact Or.inl ⟨a3, b4, by rw [a4, b3, st_digest R0 a1]⟩
      · exact absurd ⟨k, a1, a2⟩ b1
    · rcases hm with ⟨k', b1, b2, -⟩ | ⟨-, -, b4⟩
      · exact absurd ⟨k', b1, b2⟩ a1
      · exact Or.inr ⟨a2, b4⟩
  refine lv_icmp_eq (tgt := 1030) hx hb dL_law_1025 (by decide) (fun _ => ?_) (fun hne => absurd (by rcases key with ⟨z1, z2, -⟩ | ⟨z1, z2⟩ <;> rw [z1, z2]) hne)
  refine lv_iload hx hb dL_law_1030 (lv_at hl 1 rfl) ?_
  refine lv_if_ne (tgt := 1047) hx hb dL_law_1032 (by decide) (fun h0 => ?_) (fun h0 => ?_)
  · refine lv_goto (tgt := 1087) hx hb dL_law_1047 (by decide) ?_
    exact kk H locs _ _ _ _ go ls hLI hP hD hS hl5 (by omega) (by omega)
  · have k3 : go 0 = r2.toInt64 := by
      rcases key with ⟨-, -, z⟩ | ⟨z1, -⟩
      · exact z
      · rw [z1] at h0; exact absurd h0 (by decide)
    refine lv_aload_n hx hb dL_law_1035 rfl (lv_at hl 5 rfl) ?_
    refine lv_iconst (v := 0) hx hb dL_law_1036 (by decide) ?_
    have hP5 : va_P E.1 vwCl [(o, aJ E 1 go)] H := va_P.of (fun z hz => hP.mem (List.mem_append_right _ (List.mem_append_right _ hz)))
    refine xlald (k := 0) hx hb hev.1 hP5 0 2 rfl rfl (by decide) (by decide) dL_law_1037 ?_
    refine lv_iload hx hb dL_law_1038 (lv_at hl 0 rfl) ?_
    refine lv_i2l (v := r2.toInt64) hx hb dL_law_1040 rfl ?_
    refine W.lcmp hx hb dL_law_1041 ?_
    refine lv_if_eq (tgt := 1047) hx hb dL_law_1042 (by decide) (fun _ => ?_) (fun hne => absurd ((lg_cmp_eq _ _).mpr k3) hne)
    refine lv_goto (tgt := 1087) hx hb dL_law_1047 (by decide) ?_
    exact kk H locs _ _ _ _ go ls hLI hP hD hS hl5 (by omega) (by omega)
