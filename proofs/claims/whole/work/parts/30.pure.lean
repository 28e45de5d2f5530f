theorem ap_step {f g g1 : Nat → Int32} {n p : Nat} {L M : List Int32} (hg : g = ap f n L) (h1 : g1 = ap g p M) (hp : p = n + L.length) : g1 = ap f n (L ++ M) := by
  rw [h1, hp, hg, ap_app]
theorem ap_nil (f : Nat → Int32) (n : Nat) : f = ap f n [] := rfl
def rowH (role ver : Int32) (unt : Int64) (oc : Nat) (fo : Nat → Int32) : List Int32 := ((([by8 role] ++ bI ver) ++ bL unt) ++ [by8 (nI oc)]) ++ octB fo oc
theorem rowH_len (role ver : Int32) (unt : Int64) (oc : Nat) (fo : Nat → Int32) : (rowH role ver unt oc fo).length = 14 + oc := by
  simp only [rowH, List.length_append, octB_len, bL_len, bI, List.length_cons, List.length_nil]
def tldB (tn : Nat) (fr fv : Nat → Int32) : List Int32 := [by8 (nI tn)] ++ rosB fr fv tn
theorem tldB_len (tn : Nat) (fr fv : Nat → Int32) : (tldB tn fr fv).length = 1 + 5 * tn := by
  simp only [tldB, List.length_append, rosB_len, List.length_cons, List.length_nil]
def dlgB (dn : Nat) (fp ft fe : Nat → Int32) : List Int32 := [by8 (nI dn)] ++ delB fp ft fe dn
theorem dlgB_len (dn : Nat) (fp ft fe : Nat → Int32) : (dlgB dn fp ft fe).length = 1 + 6 * dn := by
  simp only [dlgB, List.length_append, delB_len, List.length_cons, List.length_nil]
def lstB (pn : Nat) (fh : Nat → Int32) : List Int32 := [by8 (nI pn)] ++ pthB fh pn
theorem lstB_len (pn : Nat) (fh : Nat → Int32) : (lstB pn fh).length = 1 + 4 * pn := by
  simp only [lstB, List.length_append, pthB_len, List.length_cons, List.length_nil]
/-- the bytes of a row -/
def rowB (role ver : Int32) (unt : Int64) (oc : Nat) (fo fn fm : Nat → Int32) (tn : Nat) (fr fv : Nat → Int32) (dn : Nat) (fp ft fe : Nat → Int32) (pn : Nat) (fh : Nat → Int32) : List Int32 :=
  rowH role ver unt oc fo ++ (if role = 0 then rosB fn fm 10 else if role < 3 then tldB tn fr fv else dlgB dn fp ft fe ++ lstB pn fh)
