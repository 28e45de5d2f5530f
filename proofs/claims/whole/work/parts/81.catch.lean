/-! A CALL THAT THROWS, CAUGHT BY ITS CALLER -/
theorem same_heap {s t : State} {k n : Nat} (h : s.sameButNew t [] k n) : s.heap.size ≤ t.heap.size ∧ ∀ q : Nat, q < s.heap.size → t.heap[q]? = s.heap[q]? := by
  obtain ⟨-, h2, -, -, -, h6⟩ := h
  refine ⟨h2, fun q hq => ?_⟩
  obtain ⟨c', e1, e2, e3, e4⟩ := h6 q s.heap[q] (Array.getElem?_eq_getElem hq)
  rw [e1, Array.getElem?_eq_getElem hq]
  have es : c'.slots = (s.heap[q]).slots := Array.ext_getElem? (fun i => e4 i (by simp))
  rw [e2, es]
theorem wsD_at {args a' : Array Value} {s U : State} (hW : s.WarmedH U.vm) : ∀ w ∈ wsD, w.before args s = true → w.before a' U = true := by
  intro w hw h
  have hg : (w.onTables && w.keepsFace) = true := List.all_eq_true.mp (show wsD.all (fun w => w.onTables && w.keepsFace) = true by decide +kernel) w hw
  simp only [Bool.and_eq_true] at hg
  have h1 := Cond.before_shiftedFace (State.Shifted.of_warmed hW) w hg.2 h
  have h2 : w.before a' (U.setVm U.vm) = true := by
    rw [Cond.onTables_vm (A' := args) (U' := s) U.vm w hg.1]
    exact h1
  rwa [State.setVm_self] at h2
set_option maxHeartbeats 4000000 in
theorem xcatch {p : Program} {l : Launch} {e : Env} {R : Room} {s : State} {m : MethodId} {args : Array Value} {below : List Frame} {meth : Method} {c : Code} {H : Heap} {locs : List Loc} {cells slots : Nat} {Q : State → Prop} {cc : ByteArray} {pc : Nat} {ls : Array Slot} {rest : List Value} (hexec : p.tables.exec = Jvm.exec) (hb : c.code = cc) {b q : Nat} {y : Int32}
    (hM : MetFree l yX7_digest (headSpec wsD rmD) (PT b y q) (fun _ _ _ _ _ => True) (fun _ st o t => QT st o t)) {own : String} (hown : s.vm.findClass own = some m.cls) (hlink : (Cond.methodLink own 7 yX7_digest).before args s = true) (hinst : (Cond.instanceMethod yX7_digest).before args s = true) (hsel : (Cond.selects RX7 yX7_digest yX7_digest).before args s = true) (hini : (Cond.initialized RX7).before args s = true)
    (hws : ∀ w ∈ wsD, w.before args s = true) (hcl : (Cond.classLink own 13 RJx00060).before args s = true) (hcast : (Cond.castable RJx00060 RJx00060).before args s = true) (htab : c.exceptionTable.toList = [⟨0, 9, 12, 13⟩]) (hsz : ls.size = c.maxLocals) (hrecv : ∃ cellB : Cell, H[b]? = some cellB ∧ cellB.vm.isStatics = false ∧ s.vm.findClass RX7 = some cellB.cls)
    (hth : ∀ U : State, U.heap = H → s.WarmedH U.vm → thE q (fun _ => False) U U.heap) (hfr : 8 ≤ R.frames) (hlo : (rest.map fun v => v.category).sum + 108 ≤ R.locals) (hcells : cells + 1 ≤ R.cells) (hslots : slots + 6 ≤ R.slots) (hdg : decode cc pc = .ok (.invokevirtual 7, 3)) (hpc : pc < 9)
    (kk : ∀ (a : Nat) (H1 : Heap), H.size ≤ H1.size → (∀ q : Nat, q < H.size → H1[q]? = H[q]?) → W p l e R s m args below meth c H1 locs (cells + 1) (slots + 6) Q (F0 m 12 ls [.ref a])) : W p l e R s m args below meth c H locs cells slots Q (F0 m pc ls (.int y :: .ref b :: rest)) := by
  intro T hT X
  have hpl : e.platform.magicAccessors = ({} : Platform).magicAccessors := by rw [X.admits.platform]
  have hy : yX7_digest.cls ≠ "java/lang/invoke/MethodHandle" ∧ yX7_digest.cls ≠ "java/lang/invoke/VarHandle" := by decide
  obtain ⟨mk, methM, hnamed, hmethM, hstM, habM⟩ := Cond.instanceMethod_spec hinst
  have hcode : (Cond.code yX7_digest cX7_digest 2 (some .byte)).before args s = true := hws _ List.mem_cons_self
  obtain ⟨methM', cM, hmethM', -, -, -, -, -, -, hsigM⟩ := Cond.code_spec hnamed hcode
  cases hmethM.symm.trans hmethM'
  obtain ⟨c2, r2, m2, q1, q2, q3, q4, kP, hkP, hkPi⟩ := Cond.selects_spec hsel
  obtain ⟨cellB, hcB, hoB, hclB⟩ := hrecv
  cases hclB.symm.trans q1
  cases (State.methodFound?_of_named hnamed hy).symm.trans q2
  cases hnamed.symm.trans q3
  have hselP : selectMethod e.platform s.vm cellB.cls mk = .method mk := by rw [Launch.admits_selectMethod X.admits]; exact q4
  have hlen : ([.int y] : List Value).length = methM.sig.parameters.length := by
    have hp : parseMethodDescriptor yX7_digest.desc = some { parameters := [.int], returnType := some .byte } := by decide +kernel
    rw [Option.some.inj (hsigM.symm.trans hp)]
    rfl
  obtain ⟨vm₁, X₁, hstep₁⟩ := X.invokevirtual hexec hown hlink hnamed hmethM hstM hkP hkPi hy (a := b) (cell := cellB) (by rw [hT]; exact hcB) (fun z h => by rw [h] at hoB; cases hoB) hselP hmethM habM hkP hkPi (g := F0 m pc ls (.int y :: .ref b :: rest)) rfl (argsL := [.int y]) (rest := rest) hlen rfl (by rw [hb]; exact hdg)
  have hdg1 : decode c.code (F0 m pc ls rest).pc = .ok (.invokevirtual 7, 3) := by rw [hb]; exact hdg
  have hn1 := X₁.named hnamed
  have hpre1 : (headSpec wsD rmD).pre.before ([.ref b, .int y] : List Value).toArray (T.setVm vm₁) = true := atoms_intro fun w hw => wsD_at X₁.warmed w hw (hws w hw)
  have hcode1 : (Cond.code yX7_digest cX7_digest 2 (some .byte)).before ([.ref b, .int y] : List Value).toArray (T.setVm vm₁) = true := wsD_at X₁.warmed _ List.mem_cons_self hcode
  obtain ⟨methY, cY, hmY, hcY, -, hlY, -, -, -, -⟩ := Cond.code_spec hn1 hcode1
  obtain ⟨kY, hkY, -⟩ := className_of_methodNamed hn1
  have hinitY : kY.init = .initialized := Cond.initialized_spec (args := ([.ref b, .int y] : List Value).toArray) (findClass_of_methodNamed hn1) hkY (word_at X₁.warmed (Or.inl (by decide)) hini)
  have hAt : At (T.setVm vm₁) (F0 m pc ls rest).method c below := X₁.here
  have happ : (headSpec wsD rmD).appliesLoose yX7_digest e.platform ((T.setVm vm₁).calling (F0 m pc ls rest) mk ([.ref b, .int y] : List Value).toArray) = true :=
    Spec.appliesLoose_calling (g := F0 m pc ls rest) hAt hdg1 hn1 hkY hinitY (X₁.room_calling (g := F0 m pc ls rest) (R' := rmD) hsz hmY hcY (by show 7 + 1 ≤ R.frames; omega) (by rw [hlY]; show 2 * 0 + (rest.map fun v => v.category).sum + (2 + 11) + 95 ≤ R.locals; omega) hcells hslots) hpre1
  obtain ⟨mid, hmid⟩ := hAt.above
  have hfr1 : ((T.setVm vm₁).setTop (F0 m pc ls rest)).frames = (.java (F0 m pc ls rest) :: mid) ++ below := by rw [State.frames_setTop' _ hAt.top, hmid]; rfl
  obtain ⟨hr1, hr2, hr3⟩ := hth (T.setVm vm₁) hT X₁.warmed
  have hP1 : PT b y q ([.ref b, .int y] : List Value).toArray ((T.setVm vm₁).calling (F0 m pc ls rest) mk ([.ref b, .int y] : List Value).toArray) := ⟨rfl, vk_R.same rfl hr1, zS.moved (u := T.setVm vm₁) (Vm.Alike.refl _) hr2, zS.moved (u := T.setVm vm₁) (Vm.Alike.refl _) hr3⟩
  obtain ⟨o, s₂, hsteps, -, hend, hq⟩ := Steps.callFree hM p X.admits X.cas X.clock (acts := []) hfr1 happ hP1 trivial
  obtain ⟨a, ce, rfl, hW2, hsame, hnew, hce, hcv, hcc⟩ := hq
  have hend2 : Ended s₂ (.java (F0 m pc ls rest) :: below) (.threw a) := by
    rw [State.frames_setTop' _ hAt.top, X₁.tail] at hend
    exact hend
  obtain ⟨T', X', hW', hsame', ht⟩ := X₁.outOfThrown (g := F0 m pc ls rest) rfl hend2 hW2 hsame
  have hheap : T'.heap = s₂.heap := by rw [ht]; exact (throwing_heap T' (F0 m pc ls rest) a).symm
  obtain ⟨c', hc', hcl'⟩ := Cond.classLink_spec hown hcl e.platform hpl
  obtain ⟨c3, c4, hc3, hc4, hasg⟩ := Cond.castable_spec hcast
  have hce' : s.vm.findClass RJx00060 = some ce.cls := by rw [← X₁.warmed.alike.findClass]; exact hcc
  cases hc3.symm.trans hce'
  cases hc4.symm.trans hc'
  obtain ⟨dk, _, _, kt, hd, _, _, _, _, hkt, _, hopen⟩ := hcl'.here
  have hcl₀ := X'.warmed.classLinks hcl'
  have hWn : s.WarmedH (T'.vm.noted m.cls 13 (.cls c')) := X'.warmed.noted hd hopen (State.rightAt_cls hcl')
  have X2 := X'.noted hWn
  rw [List.append_nil] at X2
  have hal := X'.warmed.alike
  obtain ⟨kt', hkt', -⟩ := hal.2.2 _ _ hkt
  have hfit' : T'.vm.assignable ce.cls c' = true := by rw [hal.assignable]; exact hasg
  have hh := same_heap hsame'
  obtain ⟨t, a1, b1⟩ := kk a T'.heap (by rw [← hT]; exact hh.1) (by rw [← hT]; exact hh.2) (T'.setVm (T'.vm.noted m.cls 13 (.cls c'))) rfl X2
  have hcau : Steps p.tables e below s₂ t := by
    rw [ht]
    refine caught1 (g := F0 m pc ls rest) X'.here (pc := 12) (vm' := T'.vm.noted m.cls 13 (.cls c')) (fun Q E d acts => ?_) a1
    exact fh_link (s := (T'.setTop (F0 m pc ls rest)).pushFrame (.throwing a)) (f := F0 m pc ls rest) (meth := meth) (code := c) X'.method' X'.code htab ⟨Nat.zero_le _, hpc⟩ (by decide) hcl₀ (by rw [throwing_heap, hheap]; exact hce) (VmData.ne_statics_of (by rw [hcv]; rfl)) (Vm.classAt_of_assignable hfit' ⟨kt', hkt'⟩) ⟨kt', hkt'⟩ hfit'
  exact ⟨t, hstep₁ _ (fun acts => by rw [doInvoke_state]; exact hsteps.trans hcau), b1⟩
