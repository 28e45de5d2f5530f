/-- the digest's words of a list of bytes -/
def shaL (L : List Int32) : Nat → Int32 := shaF (ap (fun _ => 0) 0 L) L.length
theorem ap0 (f : Nat → Int32) (L : List Int32) {j : Nat} (h : j < L.length) : ap f 0 L j = L.getD j 0 := by
  have := ap_in f 0 L h
  rwa [Nat.zero_add] at this
theorem padc_congr {f g : Nat → Int32} {n : Nat} (h : ∀ j, j < n → f j = g j) (e : Nat) : padc f n e = padc g n e := by
  funext j
  unfold padc
  by_cases hj : j < n
  · rw [if_pos hj, if_pos hj, h j hj]
  · rw [if_neg hj, if_neg hj]
theorem shaF_congr {f g : Nat → Int32} {n : Nat} (h : ∀ j, j < n → f j = g j) : shaF f n = shaF g n := by
  unfold shaF
  rw [padc_congr h 64, padc_congr h 128]
theorem shaL_of {f g ga : Nat → Int32} {n : Nat} {L : List Int32} (h : ∀ i, i < 8 → ga i = shaF g n i) (hg : g = ap f 0 L) (hn : n = L.length) : ∀ i, i < 8 → ga i = shaL L i := by
  intro i hi
  rw [h i hi, hg, hn]
  unfold shaL
  rw [shaF_congr (f := ap f 0 L) (g := ap (fun _ => 0) 0 L) (fun j hj => (ap0 f L hj).trans (ap0 _ L hj).symm)]
theorem eight_congr {f g : Nat → Int32} (h : ∀ i, i < 8 → f i = g i) : eight f = eight g := by
  unfold eight
  rw [h 0 (by omega), h 1 (by omega)]
theorem rowB_len_le (role ver : Int32) (unt : Int64) {oc tn dn pn : Nat} (fo fn fm fr fv fp ft fe fh : Nat → Int32) (h1 : oc ≤ 16) (h2 : tn ≤ 7) (h3 : dn ≤ 6) (h4 : pn ≤ 6) : (rowB role ver unt oc fo fn fm tn fr fv dn fp ft fe pn fh).length ≤ 92 := by
  unfold rowB
  rw [List.length_append, rowH_len]
  split
  · rw [rosB_len]; omega
  · split
    · rw [tldB_len]; omega
    · rw [List.length_append, dlgB_len, lstB_len]; omega
