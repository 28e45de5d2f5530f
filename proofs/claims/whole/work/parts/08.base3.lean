/-- the cells that are only read lie apart from those that may be written, and are old -/
def xAp (wr ro : va_W) (sz : Nat) : Prop := ∀ q ∈ ro, ¬ va_A wr sz q.1
def CP (E : xE) (wr ro : va_W) (sz : Nat) (av : List Value) : Array Value → State → Prop := va_Pc av (fun U => U.heap.size = sz ∧ va_P E.1 vwCl wr U.heap ∧ va_P E.1 vwCl ro U.heap ∧ va_D (fun _ => True) wr ∧ xAp wr ro sz ∧ xEv E U ∧ xZ E (va_A wr sz) U U.heap)
theorem CP.blind {E : xE} {wr ro : va_W} {sz : Nat} {av : List Value} : FrameBlind (CP E wr ro sz av) := by
  intro a U g mk q
  obtain ⟨q0, q1, q2, q3, q4, q5, ⟨q6, q7, q8⟩, q9⟩ := q
  exact ⟨q0, q1, q2, q3, q4, q5, ⟨va_K.moved (u := U) (U := U.calling g mk a) (Vm.Alike.refl U.vm) q6, xN.same (u := U) (U := U.calling g mk a) rfl q7, va_AO.moved (u := U) (U := U.calling g mk a) (Vm.Alike.refl U.vm) q8⟩, xZ.moved (u := U) (U := U.calling g mk a) (Vm.Alike.refl U.vm) q9⟩
def xB (E : xE) (A : Nat → Prop) (w : va_W) (t : State) : Prop := va_P E.1 vwCl w t.heap ∧ va_D A w
abbrev QI (E : xE) (post : Int32 → va_W → Prop) (A : Nat → Prop) : Array Value → State → Outcome → State → Prop := va_Qi post (xB E A) A
abbrev QL (E : xE) (post : Int64 → va_W → Prop) (A : Nat → Prop) : Array Value → State → Outcome → State → Prop := va_Ql post (xB E A) A
abbrev QV (E : xE) (post : va_W → Prop) (A : Nat → Prop) : Array Value → State → Outcome → State → Prop := va_Qv post (xB E A) A
abbrev QR (E : xE) (post : Option Nat → va_W → Prop) (A : Nat → Prop) : Array Value → State → Outcome → State → Prop := va_Qq post (xB E A) A
/-- a contract: the method y, its words, frames and locals below it, cells and slots that it makes, the cells it may write, those it reads alone, its arguments, its end -/
abbrev KT (l : Launch) (y : MethodName) (ws : List Cond) (fr lo mc ms : Nat) (E : xE) (wr ro : va_W) (av : List Value) (Qf : (Nat → Prop) → Array Value → State → Outcome → State → Prop) : Prop := ∀ sz : Nat, Met l y ws ({ frames := fr, cells := mc, slots := ms, locals := lo }) (CP E wr ro sz av) (Qf (va_A wr sz)) mc ms (va_A wr sz)
theorem KT.start {l : Launch} {y : MethodName} {ws ws' : List Cond} {fr lo mc ms : Nat} {E : xE} {wr ro : va_W} {av : List Value} {Qf : (Nat → Prop) → Array Value → State → Outcome → State → Prop} {cc : ByteArray} {maxL : Nat} {ret : Option FieldType} (hy : plainName y.cls = true) (hw : ws = Cond.code y cc maxL ret :: ws') (hav : (lg_sl av).length ≤ maxL)
    (body : ∀ (p : Program) (e : Env) (s : State) (m : MethodId) (below : List Frame) (meth : Method) (c : Code) (A : Nat → Prop) (H : Heap), p.tables.exec = Jvm.exec → c.code = cc → meth.sig.returnType = ret → meth.locks = false → c.maxLocals = maxL → (∀ w ∈ ws, w.before av.toArray s = true) → s.vm.findClass y.cls = some m.cls → meth.name = y.name → va_P E.1 vwCl wr H → va_P E.1 vwCl ro s.heap → va_D A wr → (∀ q ∈ ro, ¬ A q.1) → xEv E s → xZ E A s s.heap → (∀ q : Nat, s.heap.size ≤ q → A q) → va_S A s.heap H [] →
      ∀ ls : Array Slot, lv_has ls maxL (lv_args 0 av) → W p l e ({ frames := fr, cells := mc, slots := ms, locals := lo }) s m av.toArray below meth c H [] 0 0 (MQ below (Qf A) av.toArray s mc ms A) (F0 m 0 ls [])) : KT l y ws fr lo mc ms E wr ro av Qf := by
  intro sz
  refine Met.ofW (cc := cc) (maxL := maxL) (ret := ret) hy hw ?_
  intro p e s m args below meth c s₁ B hml hv
  obtain ⟨rfl, hsz, hP, hR, hD0, hap, hev, hz⟩ := hv
  subst hsz
  have hl := lv_entry av (n := maxL) hav
  rw [lg_entry_eq]
  exact body p e s m below meth c (va_A wr s.heap.size) s.heap B.exec B.bytes B.returns B.notSynchronized hml (atoms_spec (ws := ws) B.pre) (findClass_of_methodNamed B.named) (name_of_methodNamed B.named B.method).1 hP hR (hD0.self (sz := s.heap.size)) hap hev hz (fun q h => Or.inr h) va_S.rf _ hl
