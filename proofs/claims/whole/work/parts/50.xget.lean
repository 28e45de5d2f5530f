abbrev mOb (ad : Nat → Nat) (t k r n d : Int32) : List Value := .int t :: .int k :: .int r :: .ref (ad 3) :: .ref (ad 4) :: .ref (ad 5) :: .ref (ad 6) :: .ref (ad 7) :: .ref (ad 8) :: .ref (ad 9) :: .ref (ad 10) :: .ref (ad 11) :: .ref (ad 12) :: .ref (ad 13) :: .ref (ad 14) :: .ref (ad 15) :: .ref (ad 16) :: .ref (ad 17) :: .ref (ad 18) :: .ref (ad 19) :: .ref (ad 20) :: .ref (ad 21) :: .ref (ad 22) :: .ref (ad 23) :: .ref (ad 24) :: .ref (ad 25) :: .ref (ad 26) :: .ref (ad 27) :: .int n :: .ref (ad 29) :: .ref (ad 30) :: .ref (ad 31) :: .ref (ad 32) :: .ref (ad 33) :: .ref (ad 34) :: .ref (ad 35) :: .ref (ad 36) :: .ref (ad 37) :: .int d :: .ref (ad 39) :: .ref (ad 40) :: []
theorem TX8_0 : TX8 0 = ("SignQuorumModel", "thrown", "I", false) := rfl
theorem TX8_1 : TX8 1 = ("SignQuorumModel", "keys", "I", false) := rfl
theorem TX8_2 : TX8 2 = ("SignQuorumModel", "rows", "I", false) := rfl
theorem TX8_3 : TX8 3 = ("SignQuorumModel", "secret", "[J", true) := rfl
theorem TX8_4 : TX8 4 = ("SignQuorumModel", "end", "[J", true) := rfl
theorem TX8_5 : TX8 5 = ("SignQuorumModel", "gone", "[Z", true) := rfl
theorem TX8_6 : TX8 6 = ("SignQuorumModel", "draftQuorum", "[I", true) := rfl
theorem TX8_7 : TX8 7 = ("SignQuorumModel", "draftSet", "[I", true) := rfl
theorem TX8_8 : TX8 8 = ("SignQuorumModel", "quorums", "[I", true) := rfl
theorem TX8_9 : TX8 9 = ("SignQuorumModel", "sets", "[I", true) := rfl
theorem TX8_10 : TX8 10 = ("SignQuorumModel", "kind", "[I", true) := rfl
theorem TX8_11 : TX8 11 = ("SignQuorumModel", "version", "[I", true) := rfl
theorem TX8_12 : TX8 12 = ("SignQuorumModel", "octets", "[I", true) := rfl
theorem TX8_13 : TX8 13 = ("SignQuorumModel", "octet", "[I", true) := rfl
theorem TX8_14 : TX8 14 = ("SignQuorumModel", "until", "[J", true) := rfl
theorem TX8_15 : TX8 15 = ("SignQuorumModel", "told", "[I", true) := rfl
theorem TX8_16 : TX8 16 = ("SignQuorumModel", "toldRole", "[I", true) := rfl
theorem TX8_17 : TX8 17 = ("SignQuorumModel", "toldVersion", "[I", true) := rfl
theorem TX8_18 : TX8 18 = ("SignQuorumModel", "delegations", "[I", true) := rfl
theorem TX8_19 : TX8 19 = ("SignQuorumModel", "pattern", "[I", true) := rfl
theorem TX8_20 : TX8 20 = ("SignQuorumModel", "to", "[I", true) := rfl
theorem TX8_21 : TX8 21 = ("SignQuorumModel", "last", "[Z", true) := rfl
theorem TX8_22 : TX8 22 = ("SignQuorumModel", "paths", "[I", true) := rfl
theorem TX8_23 : TX8 23 = ("SignQuorumModel", "path", "[I", true) := rfl
theorem TX8_24 : TX8 24 = ("SignQuorumModel", "signatures", "[I", true) := rfl
theorem TX8_25 : TX8 25 = ("SignQuorumModel", "signer", "[I", true) := rfl
theorem TX8_26 : TX8 26 = ("SignQuorumModel", "signature", "[J", true) := rfl
theorem TX8_27 : TX8 27 = ("SignQuorumModel", "now", "[I", true) := rfl
theorem TX8_28 : TX8 28 = ("SignQuorumModel", "many", "I", false) := rfl
theorem TX8_29 : TX8 29 = ("SignQuorumModel", "bytes", "[I", true) := rfl
theorem TX8_30 : TX8 30 = ("SignQuorumModel", "made", "[I", true) := rfl
theorem TX8_31 : TX8 31 = ("SignQuorumModel", "shown", "[I", true) := rfl
theorem TX8_32 : TX8 32 = ("SignQuorumModel", "start", "[I", true) := rfl
theorem TX8_33 : TX8 33 = ("SignQuorumModel", "steps", "[I", true) := rfl
theorem TX8_34 : TX8 34 = ("SignQuorumModel", "word", "[I", true) := rfl
theorem TX8_35 : TX8 35 = ("SignQuorumModel", "state", "[I", true) := rfl
theorem TX8_36 : TX8 36 = ("SignQuorumModel", "sum", "[I", true) := rfl
theorem TX8_37 : TX8 37 = ("SignQuorumModel", "searched", "[Z", true) := rfl
theorem TX8_38 : TX8 38 = ("SignQuorumModel", "depth", "I", false) := rfl
theorem TX8_39 : TX8 39 = ("SignQuorumModel", "role", "[I", true) := rfl
theorem TX8_40 : TX8 40 = ("SignQuorumModel", "place", "[I", true) := rfl
theorem pfI : parseFieldDescriptor "I" = some .int := by decide +kernel
section XG
variable {p : Program} {l : Launch} {e : Env} {R : Room} {s : State} {m : MethodId} {args : Array Value} {below : List Frame} {meth : Method} {c : Code} {H : Heap} {locs : List Loc} {cells slots : Nat} {Q : State → Prop}
variable {cc : ByteArray} {pc : Nat} {ls : Array Slot} {rest : List Value} {D : va_G} {A : Nat → Prop} {a : Nat} {tys : List (ClassId × FieldType)} {ws : va_W} {H0 : Heap}
theorem xgt {k : Nat} {d n ds : String} {fb : Bool} (hT : TX8 k = (d, n, ds, fb)) (hx : p.tables.exec = Jvm.exec) (hb : c.code = cc) {own : String} {index : Nat} {Ts : List Cond} (hts : ∀ w ∈ Ts, w.before args s = true) (hin : ∀ w ∈ u_ws RX8 TX8 41, w ∈ Ts) (hown : s.vm.findClass own = some m.cls) (hK : va_K D vwCl tys s) (hP : va_P D vwCl ws H) (q0 : Nat) {fs : List Value} (he : ws[q0]? = some (a, .inr (9, fs))) (hk : k < 41) (hlink : (Cond.fieldLink own index d n ds).before args s = true) {v : Value} (hv : fs[k]? = some v) (hdg : decode cc pc = .ok (.getfield index, 3))
    (kk : W p l e R s m args below meth c H locs cells slots Q (F0 m (pc + 3) ls (v :: rest))) : W p l e R s m args below meth c H locs cells slots Q (F0 m pc ls (.ref a :: rest)) :=
  va_get (C := RX8) (T := TX8) (N := 41) (ci := 9) (ref := d) hx hb hts hin hown hK hP q0 he rfl k hk (by rw [hT]; exact hlink) (by rw [hT]; exact fun _ h => h) hv hdg kk
theorem xpt {k : Nat} {d n : String} (hT : TX8 k = (d, n, "I", false)) (hx : p.tables.exec = Jvm.exec) (hb : c.code = cc) {own : String} {index : Nat} {Ts : List Cond} (hts : ∀ w ∈ Ts, w.before args s = true) (hin : ∀ w ∈ u_ws RX8 TX8 41, w ∈ Ts) (hown : s.vm.findClass own = some m.cls) (hK : va_K D vwCl tys s) (hP : va_P D vwCl ws H) (hD : va_D A ws) (hS0 : va_S A H0 H locs) (q0 : Nat) {fs : List Value} (he : ws[q0]? = some (a, .inr (9, fs))) (hk : k < 41) (hlink : (Cond.fieldLink own index d n "I").before args s = true) {v : Int32} (hl : k < fs.length) (hdg : decode cc pc = .ok (.putfield index, 3))
    (kk : ∀ (H1 : Heap) (locs1 : List Loc), va_P D vwCl (ws.set q0 (a, .inr (9, fs.set k (.int v)))) H1 → va_D A (ws.set q0 (a, .inr (9, fs.set k (.int v)))) → va_S A H0 H1 locs1 → W p l e R s m args below meth c H1 locs1 cells slots Q (F0 m (pc + 3) ls rest)) : W p l e R s m args below meth c H locs cells slots Q (F0 m pc ls (.int v :: .ref a :: rest)) :=
  va_put (C := RX8) (T := TX8) (N := 41) (ci := 9) (ref := d) (ty := .int) hx hb hts hin tyX8 tyX8_ok nmX8 hown hK hP hD hS0 q0 he rfl k hk (by rw [hT]; exact hlink) (by rw [hT]; exact fun _ h => h) (by rw [hT]) (by rw [hT]; exact pfI) rfl rfl hl hdg kk
end XG
