/-! THE THROW OF digest -/
def thN : List String := ["java/lang/IndexOutOfBoundsException", "java/lang/RuntimeException", "java/lang/Exception"]
def thOk : Cond → Bool
  | .isRef _ => false
  | .laysStatic .. => false
  | _ => true
def thA : List Cond := (Bundle.ownAtoms RX7 185 RJx00060 thN).filter thOk
def th1 : Cond := .isRef (.static Bundle.tN "UNASSIGNED_STACK" Bundle.steD)
def th2 : Cond := .isRef (.static Bundle.tN "SUPPRESSED_SENTINEL" Bundle.listD)
def th3 : Cond := .laysStatic Bundle.tN "UNASSIGNED_STACK" Bundle.steD
def th4 : Cond := .laysStatic Bundle.tN "SUPPRESSED_SENTINEL" Bundle.listD
def wsD : List Cond := .code yX7_digest cX7_digest 2 (some .byte) :: .classLink RX7 181 RJx00060 :: .initialized RJx00060 :: thA
theorem thA_not : (Bundle.ownAtoms RX7 185 RJx00060 thN).filter (fun c => !thOk c) = [th3, th4, th1, th2] := rfl
theorem thA_all {args : Array Value} {s : State} (h : ∀ a ∈ thA, a.before args s = true) (h1 : th1.before args s = true) (h2 : th2.before args s = true) (h3 : th3.before args s = true) (h4 : th4.before args s = true) : ∀ a ∈ Bundle.ownAtoms RX7 185 RJx00060 thN, a.before args s = true := by
  intro a ha
  cases hk : thOk a with
  | true => exact h a (List.mem_filter.mpr ⟨ha, hk⟩)
  | false =>
    have hm : a ∈ (Bundle.ownAtoms RX7 185 RJx00060 thN).filter (fun c => !thOk c) := List.mem_filter.mpr ⟨ha, by simp [hk]⟩
    rw [thA_not] at hm
    simp only [List.mem_cons, List.not_mem_nil, or_false] at hm
    rcases hm with rfl | rfl | rfl | rfl
    · exact h3
    · exact h4
    · exact h1
    · exact h2
/-- a static that holds a reference or null -/
def zS (C n d : String) (A : Nat → Prop) (U : State) (H : Heap) : Prop := ∃ (c : ClassId) (k : Class) (i : Nat) (f : Field) (a : Nat) (cell : Cell) (v : Value), U.vm.findClass C = some c ∧ U.fieldFound? C n d = some (c, k, i, f) ∧ f.isStatic = true ∧ k.statics = some a ∧ H[a]? = some cell ∧ cell.vm.isStatics = true ∧ cell.cls = c ∧ f.slot < cell.slots.size ∧ k.staticTypes[f.slot]? = some f.type ∧ cell.slots[f.slot]? = some v ∧ v.isRef = true ∧ ¬ A a
theorem zS.moved {C n d : String} {A : Nat → Prop} {u U : State} {H : Heap} (hvm : u.vm.Alike U.vm) (h : zS C n d A u H) : zS C n d A U H := by
  obtain ⟨c, k, i, f, a, cell, v, h0, h1, h2, h3, h4, h5, h6, h7, h8, h9⟩ := h
  obtain ⟨k', hi', he⟩ := State.fieldFound?_setVm hvm h1
  exact ⟨c, k', i, f, a, cell, v, by rw [hvm.findClass]; exact h0, hi', h2, by rw [he]; exact h3, h4, h5, h6, h7, by rw [he]; exact h8, h9⟩
theorem zS.kept {C n d : String} {A : Nat → Prop} {U : State} {H H1 : Heap} (h : zS C n d A U H) (hq : ∀ a : Nat, a < H.size → ¬ A a → H1[a]? = H[a]?) : zS C n d A U H1 := by
  obtain ⟨c, k, i, f, a, cell, v, h0, h1, h2, h3, h4, h5, h6, h7, h8, h9, h10, h11⟩ := h
  exact ⟨c, k, i, f, a, cell, v, h0, h1, h2, h3, by rw [hq a (Array.getElem?_eq_some_iff.mp h4).1 h11]; exact h4, h5, h6, h7, h8, h9, h10, h11⟩
theorem zS.narrow {C n d : String} {A B : Nat → Prop} {U : State} {H : Heap} (h : zS C n d A U H) (hAB : ∀ q, B q → A q) : zS C n d B U H := by
  obtain ⟨c, k, i, f, a, cell, v, h0, h1, h2, h3, h4, h5, h6, h7, h8, h9, h10, h11⟩ := h
  exact ⟨c, k, i, f, a, cell, v, h0, h1, h2, h3, h4, h5, h6, h7, h8, h9, h10, fun z => h11 (hAB a z)⟩
theorem zS.of {args : Array Value} {s : State} {C n d : String} {A : Nat → Prop} (hl : (Cond.laysStatic C n d).before args s = true) (h : (Cond.isRef (.static C n d)).before args s = true) (hA : ∀ a : Nat, a < s.heap.size → ¬ A a) : zS C n d A s s.heap := by
  obtain ⟨c, k, i, f, a, cell, hc, hi, hst, ha, hcell, hs, hcls, hlt, hty⟩ := Cond.laysStatic_spec hl
  obtain ⟨u, hu⟩ := Cond.staticRefV hi hst ha hcell hs h
  exact ⟨c, k, i, f, a, cell, u.v, hc, hi, hst, ha, hcell, hs, hcls, hlt, hty, hu, u.2, hA a (Array.getElem?_eq_some_iff.mp hcell).1⟩
theorem zS.ref {C n d : String} {A : Nat → Prop} {U : State} {args : Array Value} (h : zS C n d A U U.heap) : (Cond.isRef (.static C n d)).before args U = true := by
  obtain ⟨c, k, i, f, a, cell, v, h0, h1, h2, h3, h4, h5, h6, h7, h8, h9, h10, h11⟩ := h
  have he : (Term.static C n d).eval args U none [] U = some v := by simp [Term.eval, State.fieldNamed?, h1, h2, h3, h4, h5, h9]
  cases v <;> simp [Value.isRef] at h10 <;> simp [Cond.before, Cond.holds, Cond.value, he]
theorem zS.lays {C n d : String} {A : Nat → Prop} {U : State} {args : Array Value} (h : zS C n d A U U.heap) : (Cond.laysStatic C n d).before args U = true := by
  obtain ⟨c, k, i, f, a, cell, v, h0, h1, h2, h3, h4, h5, h6, h7, h8, h9, h10, h11⟩ := h
  simp [Cond.before, Cond.holds, Cond.value, h0, h1, h2, h3, h4, h5, h6, h7, h8]
/-- from the exception's constructor to the throw -/
theorem xthrow {p : Program} {l : Launch} {e : Env} {R : Room} {s : State} {m : MethodId} {args : Array Value} {below : List Frame} {meth : Method} {c : Code} {H : Heap} {cells slots : Nat} {Q : State → Prop} {cc : ByteArray} {pc : Nat} {ls : Array Slot} (hexec : p.tables.exec = Jvm.exec) (hb : c.code = cc) (hlocks : meth.locks = false) (htab : c.exceptionTable.isEmpty = true) (hsz : ls.size = c.maxLocals) (htr : l.flags = pinnedFlags ++ [noTraceFlag]) (hown : s.vm.findClass RX7 = some m.cls) (h : ∀ a ∈ Bundle.ownAtoms RX7 185 RJx00060 thN, a.before args s = true)
    {a q : Nat} {cX : ClassId} {kX : Class} (hf : s.vm.findClass RJx00060 = some cX) (hk : s.vm.classes[cX]? = some kX) (hc : H[a]? = some (freshCell cX kX)) (hnew : s.heap.size ≤ a) (hd6 : decode cc pc = .ok (.invokespecial 185, 3)) (hd9 : decode cc (pc + 3) = .ok (.athrow, 1)) (hfr : 6 < R.frames) (hlo : 95 ≤ R.locals)
    (kk : ∀ (t : State) (ce : Cell), t.status = .running → Ended t below (.threw a) → s.WarmedH t.vm → s.sameButNew ({ t with vm := s.vm } : State) [] cells slots → t.heap[a]? = some ce → ce.vm = .none → s.vm.findClass RJx00060 = some ce.cls → Q t) : W p l e R s m args below meth c H [] cells slots Q (F0 m pc ls [.ref q, .ref a, .ref a]) := by
  intro T hT X
  obtain ⟨U, h1, h2, h3, h4, h5, ce, h6, h7⟩ := X.ctorThrowS hexec (Launch.traces_off htr X.admits) (own := RX7) (cls := RJx00060) (names := thN) (ic := 185) hown (by decide +kernel) (by decide +kernel) h (fun x hx => by cases hx) hf hk (by rw [hT]; exact hc) hnew (msg := .ref q) rfl (g := F0 m pc ls [.ref q, .ref a, .ref a]) rfl hsz rfl rfl (rest := []) rfl (by rw [hb]; exact hd6) (by rw [hb]; exact hd9)
    (fun x hx => by rw [Array.isEmpty_iff.mp htab] at hx; cases hx) (by show 3 + 3 < R.frames; omega) (by show 2 * 0 + 1 + (13 * (3 + 1) + 42) ≤ R.locals; omega) (hlocks := hlocks)
  exact ⟨U, h1, kk U ce h2 h3 h4 h5 h6 h7.vm h7.cls⟩
/-- digest's end where it throws -/
def QT (st : State) (o : Outcome) (t : State) : Prop := ∃ (a : Nat) (ce : Cell), o = .threw a ∧ st.WarmedH t.vm ∧ st.sameButNew ({ t with vm := st.vm } : State) [] 1 6 ∧ st.heap.size ≤ a ∧ t.heap[a]? = some ce ∧ ce.vm = .none ∧ st.vm.findClass RJx00060 = some ce.cls
/-- what the throw asks of the state, tables aside -/
def thE (q : Nat) (A : Nat → Prop) (U : State) (H : Heap) : Prop := vk_R RX7 183 "i isn't 0 .. 31" q U ∧ zS Bundle.tN "UNASSIGNED_STACK" Bundle.steD A U H ∧ zS Bundle.tN "SUPPRESSED_SENTINEL" Bundle.listD A U H
def PT (x : Nat) (y : Int32) (q : Nat) (a : Array Value) (U : State) : Prop := a = ([.ref x, .int y] : List Value).toArray ∧ thE q (fun _ => False) U U.heap
abbrev rmD : Room := { frames := 7, cells := 1, slots := 6, locals := 95 }
set_option maxHeartbeats 4000000 in
set_option maxRecDepth 100000 in
theorem dT (l : Launch) (htr : l.flags = pinnedFlags ++ [noTraceFlag]) (x q : Nat) (y : Int32) (hy : ¬ isN y 32) : MetFree l yX7_digest (headSpec wsD rmD) (PT x y q) (fun _ _ _ _ _ => True) (fun _ st o t => QT st o t) := by
  refine MetFree.of_bodyS (code := cX7_digest) (maxLocals := 2) (ret := some .byte) (by decide) ?_ ?_
  · intro args s m h hn
    obtain ⟨meth, c, h1, h2, h3, h4, h5, h6, -, -⟩ := Cond.code_spec hn (atoms_spec (ws := wsD) h _ List.mem_cons_self)
    exact ⟨meth, c, h1, h2, h3, h4, h5, h6⟩
  · intro p e s m args below meth c s₁ B hml hP _
    obtain ⟨rfl, hq, hz1, hz2⟩ := hP
    have hts : ∀ w ∈ wsD, w.before ([.ref x, .int y] : List Value).toArray s = true := atoms_spec (ws := wsD) B.pre
    have htab := BodyLoose.noHandlers B (hts _ List.mem_cons_self)
    have hown : s.vm.findClass RX7 = some m.cls := findClass_of_methodNamed B.named
    have hx := B.exec
    have hb := B.bytes
    have hall := thA_all (args := ([.ref x, .int y] : List Value).toArray) (s := s) (fun a ha => hts a (List.mem_cons_of_mem _ (List.mem_cons_of_mem _ (List.mem_cons_of_mem _ ha)))) hz1.ref hz2.ref hz1.lays hz2.lays
    have hcl := hts (.classLink RX7 181 RJx00060) (List.mem_cons_of_mem _ List.mem_cons_self)
    have hini := hts (.initialized RJx00060) (List.mem_cons_of_mem _ (List.mem_cons_of_mem _ List.mem_cons_self))
    have hins := hall (.instantiable RJx00060 6) (by simp [Bundle.ownAtoms])
    obtain ⟨cX, kX, hfX, hkX, -, -, -, -⟩ := Cond.instantiable_spec hins
    have K : W p l e rmD s m ([.ref x, .int y] : List Value).toArray below meth c s.heap [] 0 0 (fun t => ∃ o, t.status = .running ∧ Ended t below o ∧ QT s o t) (entryFrame m ([.ref x, .int y] : List Value).toArray 2) := by
      have hl0 := lv_entry [.ref x, .int y] (n := 2) (Nat.le_of_ble_eq_true rfl)
      rw [lg_entry_eq]
      suffices hs : ∀ ls : Array Slot, lv_has ls 2 [(0, .ref x), (1, .int y)] → W p l e rmD s m ([.ref x, .int y] : List Value).toArray below meth c s.heap [] 0 0 (fun t => ∃ o, t.status = .running ∧ Ended t below o ∧ QT s o t) (F0 m 0 ls []) from hs _ hl0
      intro ls hl
      have tail : W p l e rmD s m ([.ref x, .int y] : List Value).toArray below meth c s.heap [] 0 0 (fun t => ∃ o, t.status = .running ∧ Ended t below o ∧ QT s o t) (F0 m 10 ls []) := by
        refine W.newcK hx hb hown hcl hins hini rfl dX7_digest_10 (by decide) (by decide) hfX rfl (fun H' kC hk hc hsz ho => ?_)
        refine lv_dup hx hb dX7_digest_13 rfl ?_
        refine va_ldcS hx hb hown hq dX7_digest_14 ?_
        refine xthrow hx hb B.notSynchronized htab (by rw [hml]; exact hl.1) htr hown hall hfX hk hc (Nat.le_refl _) dX7_digest_16 dX7_digest_19 (by decide) (by decide) (fun t ce g1 g2 g3 g4 g5 g6 g7 => ?_)
        exact ⟨_, g1, g2, _, ce, rfl, g3, g4, Nat.le_refl _, g5, g6, g7⟩
      refine lv_iload_n hx hb dX7_digest_0 rfl (lv_at hl 1 rfl) ?_
      refine lv_if_lt (tgt := 10) hx hb dX7_digest_1 (by decide) (fun c1 => tail) (fun c1 => ?_)
      refine lv_iload_n hx hb dX7_digest_4 rfl (lv_at hl 1 rfl) ?_
      refine lv_bipush (v := 32) hx hb dX7_digest_5 (by decide) ?_
      refine lv_icmp_lt (tgt := 20) hx hb dX7_digest_7 (by decide) (fun c3 => absurd (in_t 32 c1 (Int32.not_le.mpr c3) (by decide)) hy) (fun c3 => tail)
    obtain ⟨t, a1, o, b1, b2, b3⟩ := K s₁ (by rw [B.state]; rfl) (Stand.of_body B)
    exact ⟨t, o, a1, b1, b2, b3⟩

/-! THE CATCH: the search through a table of one row whose class the pool's entry names -/
theorem fh_link {Q : Handler → Pre} {E : CtlPost} {e : Env} {d : Bool} {acts : List Action} {s : State} {f : JFrame} {a : Addr} {meth : Method} {code : Code} (hm : s.vm.method? f.method = some meth) (hc : meth.code = some code) {z : ExceptionTableEntry} (htab : code.exceptionTable.toList = [z]) (hin : z.startPc ≤ f.pc ∧ f.pc < z.endPc) (h0 : z.catchType ≠ 0) {cT : ClassId} {cell : Cell}
    (hl : s.vm.ClassLinks e.platform f.method.cls z.catchType cT) (hcell : s.heap[a]? = some cell) (hobj : ∀ k, cell.vm ≠ .statics k) (hk : ∃ k, s.vm.classes[cell.cls]? = some k) (hcl : ∃ k, s.vm.classes[cT]? = some k) (hfit : s.vm.assignable cell.cls cT = true) :
    wp (findHandler f a) Q E e d acts s ↔ Q (.found z.handlerPc) d acts (s.setVm (s.vm.noted f.method.cls z.catchType (.cls cT))) := by
  rw [W.findHandler_eq hm hc, htab]
  obtain ⟨g1, g2⟩ := (resolveClass_links e.toSetting hl).op (op := VmOp.resolveClass f.method.cls z.catchType) rfl
  have al : s.vm.Alike (s.vm.noted f.method.cls z.catchType (.cls cT)) := (Vm.Alike.refl s.vm).noted _ _ _
  obtain ⟨k1, q1⟩ := hk
  obtain ⟨k2, q2⟩ := hcl
  obtain ⟨k3, q3, -⟩ := al.2.2 _ _ q1
  obtain ⟨k4, q4, -⟩ := al.2.2 _ _ q2
  have fit2 : (s.vm.noted f.method.cls z.catchType (.cls cT)).assignable cell.cls cT = true := by rw [al.assignable]; exact hfit
  simp [findHandler.go, hin.1, hin.2, h0, g1, g2, hcell, hobj, q3, q4, fit2, VmOp.dirties, VmOp.acts]
theorem caught1 {tb : Tables} {e : Env} {s target : State} {g : JFrame} {c : Code} {below : List Frame} {a : Addr} (h : At s g.method c below) {pc : Nat} {vm' : Vm}
    (hfind : ∀ (Q : Handler → Pre) (E : CtlPost) (d : Bool) (acts : List Action), wp (findHandler g a) Q E e d acts ((s.setTop g).pushFrame (.throwing a)) ↔ Q (.found pc) d acts (((s.setTop g).pushFrame (.throwing a)).setVm vm')) (hrest : Steps tb e below ((s.setVm vm').setTop { g with pc := pc, stack := [.ref a] }) target) :
    Steps tb e below ((s.setTop g).pushFrame (.throwing a)) target := by
  obtain ⟨w1, w2⟩ := h.throwing a
  have hst : ∀ r : List Frame, (stepThrowing e ((s.setTop g).pushFrame (.throwing a)) a (.java g :: r)).1 = (((s.setTop g).pushFrame (.throwing a)).setVm vm').setFrames (.java { g with pc := pc, stack := [.ref a] } :: r) := by
    intro r
    simp only [stepThrowing, searchFrame, vmDo]
    generalize hr : Sem.go _ e false [] ((s.setTop g).pushFrame (.throwing a)) = res
    obtain ⟨as, rfl, ha⟩ := Sem.eq_ok_of hr (a := Handler.found pc) (s' := ((s.setTop g).pushFrame (.throwing a)).setVm vm') (acts' := []) (by simp [hfind _ _ _ _])
    rfl
  refine Steps.head w1 w2 ?_
  rw [stepThread_throwing (frames_entered h.top _), hst]
  obtain ⟨g₀, hg⟩ := Option.isSome_iff_exists.mp h.top
  obtain ⟨r, hr⟩ := State.topJava?_eq_some.mp hg
  have hr2 : (s.setVm vm').frames = .java g₀ :: r := hr
  have sw : ∀ (u : State) (F G : List Frame), ((u.setFrames F).setVm vm').setFrames G = (u.setVm vm').setFrames G := fun u F G => by
    rw [show (u.setFrames F).setVm vm' = (u.setVm vm').setFrames F from rfl, State.setFrames_setFrames]
  rw [State.setTop_of_frames _ hr2] at hrest
  rw [hr, List.tail_cons, State.pushFrame, sw, State.setTop_of_frames _ hr, sw]
  exact hrest
