abbrev pX7_octetN (E : xE) (x : Nat) (rg : Nat) (dr : Nat) (rs : Nat) (nr : Int32) (c0 : Nat) (h : Nat) (td : Nat) (rf : Nat → Option Nat) (y : Int32) (b : Int32) (r : Int32) (w : va_W) : Prop := w = [] ∧ r = -1 ∧ (True)
set_option maxHeartbeats 4000000 in
set_option maxRecDepth 100000 in
theorem kX7_octetN (l : Launch) (E : xE) (x : Nat) (rg : Nat) (dr : Nat) (rs : Nat) (nr : Int32) (c0 : Nat) (h : Nat) (td : Nat) (rf : Nat → Option Nat) (y : Int32) (b : Int32) (hrx : rAt rf y = none) : KT l yX7_octet wsX7_octet 2 43 0 0 E [] [(x, .inr (8, [.ref rg, .ref dr, .ref rs, .int nr, .ref c0, .ref h, .ref td])), (rs, aR E 24 rf)] [.ref x, .int y, .int b] (QI E (pX7_octetN E x rg dr rs nr c0 h td rf y b)) := by
  refine KT.start (cc := cX7_octet) (maxL := 4) (ret := (some .int)) (by decide) rfl (Nat.le_of_ble_eq_true rfl) ?_
  intro p e s m below meth c A H hx hb hr hlocks hml hts hown hin hP hR0 hD hap hev hz hA hS ls hl
  have hl : lv_has ls 4 [(0, .ref x), (1, .int y), (2, .int b)] := hl
  refine lv_aload_n hx hb dX7_octet_0 rfl (lv_at hl 0 rfl) ?_
  refine lv_iload_n hx hb dX7_octet_1 rfl (lv_at hl 1 rfl) ?_
  have hP := hP.sub (ws' := [] ++ []) [] rfl
  have hD := hD.sub (ws' := [] ++ []) [] (by decide) rfl
  refine xcr (va_runV (As := [.int y]) (rest := []) ⟨hx, hb, hml, hown, hts⟩ (kX7_openRowN l E x rg dr rs nr c0 h td rf y (by first | assumption | omega) H.size) (cwV 1 hts gX7_octet_X7_openRow rfl rfl rfl (by decide +kernel) ⟨Nat.le_of_ble_eq_true rfl, Nat.le_of_ble_eq_true rfl⟩) ⟨CP.blind, (va_recv hev.1 (xro hR0 hap hS) (ci := 8) (q0 := 0) rfl rfl), (xpre hev hz hA hP hD hS hR0 hap [0, 1] rfl)⟩ rfl rfl hl.1 rfl (lv_room (Nat.le_of_ble_eq_true rfl)) dX7_octet_2 ⟨Nat.le_of_ble_eq_true rfl, Nat.le_of_ble_eq_true rfl⟩) hP hD hS hA (fun r1 w2 H locs h3 hP hD hS => ?_)
  obtain ⟨rfl, rfl, h3⟩ := h3
  try dsimp only at h3
  have hP : va_P E.1 vwCl [] H := hP
  have hD : va_D A [] := hD
  refine lv_astore_nN (lv' := [(3, .null), (0, .ref x), (1, .int y), (2, .int b)]) hx hb dX7_octet_5 rfl hl (by decide) rfl (fun ls hl => ?_)
  refine lv_aload_nN hx hb dX7_octet_6 rfl (lv_at hl 0 rfl) ?_
  refine lv_ifnonnullN hx hb dX7_octet_7 ?_
  refine lv_iconst (v := (-1)) hx hb dX7_octet_10 (by decide) ?_
  refine lv_goto (tgt := 19) hx hb dX7_octet_11 (by decide) ?_
  refine xri hx hb hr hlocks hP hD hS ⟨rfl, ?_, ?_⟩ dX7_octet_19
  · rfl
  · trivial

abbrev pX7_octet (E : xE) (x : Nat) (rg : Nat) (dr : Nat) (rs : Nat) (nr : Int32) (c0 : Nat) (h : Nat) (td : Nat) (rf : Nat → Option Nat) (w0 : Nat) (nu : Int32) (role : Int32) (ver : Int32) (unt : Int64) (oa : Nat) (oc : Nat) (qo : Nat) (tq : Nat) (dq : Nat) (ha : Nat) (pn : Nat) (sn : Nat) (rk : Int32) (fo : Nat → Int32) (y : Int32) (b : Int32) (r : Int32) (w : va_W) : Prop := ∃ (oc2 : Nat) (go : Nat → Int32), w = [(w0, .inr (5, [.int nu, .int role, .int ver, .long unt, .ref oa, .int (nI oc2), .ref qo, .ref tq, .ref dq, .ref ha, .int (nI pn), .int (nI sn), .int rk])), (oa, aB E 16 go)] ∧ ((sn = 0 ∧ oc < 16 ∧ r = nI (oc + 1) ∧ oc2 = oc + 1 ∧ go = upd fo oc (by8 b)) ∨ (¬ (sn = 0 ∧ oc < 16) ∧ r = -1 ∧ oc2 = oc ∧ go = fo))
set_option maxHeartbeats 4000000 in
set_option maxRecDepth 100000 in
theorem kX7_octet (l : Launch) (E : xE) (x : Nat) (rg : Nat) (dr : Nat) (rs : Nat) (nr : Int32) (c0 : Nat) (h : Nat) (td : Nat) (rf : Nat → Option Nat) (w0 : Nat) (nu : Int32) (role : Int32) (ver : Int32) (unt : Int64) (oa : Nat) (oc : Nat) (qo : Nat) (tq : Nat) (dq : Nat) (ha : Nat) (pn : Nat) (sn : Nat) (rk : Int32) (fo : Nat → Int32) (y : Int32) (b : Int32) (hrx : rAt rf y = some w0) (hsn : sn ≤ 12) (hoc : oc ≤ 16) : KT l yX7_octet wsX7_octet 2 43 0 0 E [(w0, .inr (5, [.int nu, .int role, .int ver, .long unt, .ref oa, .int (nI oc), .ref qo, .ref tq, .ref dq, .ref ha, .int (nI pn), .int (nI sn), .int rk])), (oa, aB E 16 fo)] [(x, .inr (8, [.ref rg, .ref dr, .ref rs, .int nr, .ref c0, .ref h, .ref td])), (rs, aR E 24 rf)] [.ref x, .int y, .int b] (QI E (pX7_octet E x rg dr rs nr c0 h td rf w0 nu role ver unt oa oc qo tq dq ha pn sn rk fo y b)) := by
  refine KT.start (cc := cX7_octet) (maxL := 4) (ret := (some .int)) (by decide) rfl (Nat.le_of_ble_eq_true rfl) ?_
  intro p e s m below meth c A H hx hb hr hlocks hml hts hown hin hP hR0 hD hap hev hz hA hS ls hl
  have hl : lv_has ls 4 [(0, .ref x), (1, .int y), (2, .int b)] := hl
  refine lv_aload_n hx hb dX7_octet_0 rfl (lv_at hl 0 rfl) ?_
  refine lv_iload_n hx hb dX7_octet_1 rfl (lv_at hl 1 rfl) ?_
  have hP := hP.sub (ws' := [] ++ [(w0, .inr (5, [.int nu, .int role, .int ver, .long unt, .ref oa, .int (nI oc), .ref qo, .ref tq, .ref dq, .ref ha, .int (nI pn), .int (nI sn), .int rk])), (oa, aB E 16 fo)]) [0, 1] rfl
  have hD := hD.sub (ws' := [] ++ [(w0, .inr (5, [.int nu, .int role, .int ver, .long unt, .ref oa, .int (nI oc), .ref qo, .ref tq, .ref dq, .ref ha, .int (nI pn), .int (nI sn), .int rk])), (oa, aB E 16 fo)]) [0, 1] (by decide) rfl
  refine xcr (va_runV (As := [.int y]) (rest := []) ⟨hx, hb, hml, hown, hts⟩ (kX7_openRow l E x rg dr rs nr c0 h td rf w0 nu role ver unt oa oc qo tq dq ha pn sn rk y (by first | assumption | omega) (by first | assumption | omega) H.size) (cwV 1 hts gX7_octet_X7_openRow rfl rfl rfl (by decide +kernel) ⟨Nat.le_of_ble_eq_true rfl, Nat.le_of_ble_eq_true rfl⟩) ⟨CP.blind, (va_recv hev.1 (xro hR0 hap hS) (ci := 8) (q0 := 0) rfl rfl), (xpre hev hz hA hP hD hS hR0 hap [2, 3, 0] rfl)⟩ rfl rfl hl.1 rfl (lv_room (Nat.le_of_ble_eq_true rfl)) dX7_octet_2 ⟨Nat.le_of_ble_eq_true rfl, Nat.le_of_ble_eq_true rfl⟩) hP hD hS hA (fun r1 w2 H locs h3 hP hD hS => ?_)
  obtain ⟨rfl, rfl, h3⟩ := h3
  try dsimp only at h3
  have hP : va_P E.1 vwCl [(w0, .inr (5, [.int nu, .int role, .int ver, .long unt, .ref oa, .int (nI oc), .ref qo, .ref tq, .ref dq, .ref ha, .int (nI pn), .int (nI sn), .int rk])), (oa, aB E 16 fo)] H := hP
  have hD : va_D A [(w0, .inr (5, [.int nu, .int role, .int ver, .long unt, .ref oa, .int (nI oc), .ref qo, .ref tq, .ref dq, .ref ha, .int (nI pn), .int (nI sn), .int rk])), (oa, aB E 16 fo)] := hD
  by_cases s4 : sn = 0
  · rw [if_pos s4]
    refine lv_astore_n (lv' := [(3, .ref w0), (0, .ref x), (1, .int y), (2, .int b)]) hx hb dX7_octet_5 rfl hl (by decide) rfl (fun ls hl => ?_)
    refine lv_aload_n hx hb dX7_octet_6 rfl (lv_at hl 0 rfl) ?_
    refine lv_ifnonnull (tgt := 14) hx hb dX7_octet_7 (by decide) ?_
    refine lv_aload_n hx hb dX7_octet_14 rfl (lv_at hl 0 rfl) ?_
    refine lv_iload_n hx hb dX7_octet_15 rfl (lv_at hl 3 rfl) ?_
    have hP := hP.sub (ws' := [(w0, .inr (5, [.int nu, .int role, .int ver, .long unt, .ref oa, .int (nI oc), .ref qo, .ref tq, .ref dq, .ref ha, .int (nI pn), .int (nI sn), .int rk])), (oa, aB E 16 fo)] ++ []) [0, 1] rfl
    have hD := hD.sub (ws' := [(w0, .inr (5, [.int nu, .int role, .int ver, .long unt, .ref oa, .int (nI oc), .ref qo, .ref tq, .ref dq, .ref ha, .int (nI pn), .int (nI sn), .int rk])), (oa, aB E 16 fo)] ++ []) [0, 1] (by decide) rfl
    refine xci (va_runV (As := [.int b]) (rest := []) ⟨hx, hb, hml, hown, hts⟩ (kX4_addOctet l E w0 nu role ver unt oa oc qo tq dq ha pn (nI sn) rk fo b (by first | assumption | omega) H.size) (cwV 1 hts gX7_octet_X4_addOctet rfl rfl rfl (by decide +kernel) ⟨Nat.le_of_ble_eq_true rfl, Nat.le_of_ble_eq_true rfl⟩) ⟨CP.blind, (va_recv hev.1 hP.left (ci := 5) (q0 := 0) rfl rfl), (xpre hev hz hA hP hD hS hR0 hap [] rfl)⟩ rfl rfl hl.1 rfl (lv_room (Nat.le_of_ble_eq_true rfl)) dX7_octet_16 ⟨Nat.le_of_ble_eq_true rfl, Nat.le_of_ble_eq_true rfl⟩) hP hD hS hA (fun r5 w6 H locs h7 hP hD hS => ?_)
    obtain ⟨oc28, go9, rfl, h7⟩ := h7
    try dsimp only at h7
    have hP : va_P E.1 vwCl [(w0, .inr (5, [.int nu, .int role, .int ver, .long unt, .ref oa, .int (nI oc28), .ref qo, .ref tq, .ref dq, .ref ha, .int (nI pn), .int (nI sn), .int rk])), (oa, aB E 16 go9)] H := hP
    have hD : va_D A [(w0, .inr (5, [.int nu, .int role, .int ver, .long unt, .ref oa, .int (nI oc28), .ref qo, .ref tq, .ref dq, .ref ha, .int (nI pn), .int (nI sn), .int rk])), (oa, aB E 16 go9)] := hD
    refine xri hx hb hr hlocks hP hD hS ⟨oc28, go9, rfl, ?_⟩ dX7_octet_19
    exact h7.elim (fun ⟨q1, q2, q3, q4⟩ => Or.inr ⟨by omega, q2, q3, q4⟩) (fun ⟨q1, q2, q3, q4⟩ => Or.inl ⟨s4, q1, q2, q3, q4⟩)
  · rw [if_neg s4]
    refine lv_astore_nN (lv' := [(3, .null), (0, .ref x), (1, .int y), (2, .int b)]) hx hb dX7_octet_5 rfl hl (by decide) rfl (fun ls hl => ?_)
    refine lv_aload_nN hx hb dX7_octet_6 rfl (lv_at hl 0 rfl) ?_
    refine lv_ifnonnullN hx hb dX7_octet_7 ?_
    refine lv_iconst (v := (-1)) hx hb dX7_octet_10 (by decide) ?_
    refine lv_goto (tgt := 19) hx hb dX7_octet_11 (by decide) ?_
    refine xri hx hb hr hlocks hP hD hS ⟨oc, fo, rfl, ?_⟩ dX7_octet_19
    exact Or.inr ⟨fun q => s4 q.1, rfl, rfl, rfl⟩

abbrev pX7_tellsN (E : xE) (x : Nat) (rg : Nat) (dr : Nat) (rs : Nat) (nr : Int32) (c0 : Nat) (h : Nat) (td : Nat) (rf : Nat → Option Nat) (y : Int32) (z : Int32) (v : Int32) (r : Int32) (w : va_W) : Prop := w = [] ∧ r = 0 ∧ (True)
set_option maxHeartbeats 4000000 in
set_option maxRecDepth 100000 in
theorem kX7_tellsN (l : Launch) (E : xE) (x : Nat) (rg : Nat) (dr : Nat) (rs : Nat) (nr : Int32) (c0 : Nat) (h : Nat) (td : Nat) (rf : Nat → Option Nat) (y : Int32) (z : Int32) (v : Int32) (hrx : rAt rf y = none) : KT l yX7_tells wsX7_tells 2 43 0 0 E [] [(x, .inr (8, [.ref rg, .ref dr, .ref rs, .int nr, .ref c0, .ref h, .ref td])), (rs, aR E 24 rf)] [.ref x, .int y, .int z, .int v] (QI E (pX7_tellsN E x rg dr rs nr c0 h td rf y z v)) := by
  refine KT.start (cc := cX7_tells) (maxL := 5) (ret := (some .boolean)) (by decide) rfl (Nat.le_of_ble_eq_true rfl) ?_
  intro p e s m below meth c A H hx hb hr hlocks hml hts hown hin hP hR0 hD hap hev hz hA hS ls hl
  have hl : lv_has ls 5 [(0, .ref x), (1, .int y), (2, .int z), (3, .int v)] := hl
  refine lv_aload_n hx hb dX7_tells_0 rfl (lv_at hl 0 rfl) ?_
  refine lv_iload_n hx hb dX7_tells_1 rfl (lv_at hl 1 rfl) ?_
  have hP := hP.sub (ws' := [] ++ []) [] rfl
  have hD := hD.sub (ws' := [] ++ []) [] (by decide) rfl
  refine xcr (va_runV (As := [.int y]) (rest := []) ⟨hx, hb, hml, hown, hts⟩ (kX7_openRowN l E x rg dr rs nr c0 h td rf y (by first | assumption | omega) H.size) (cwV 1 hts gX7_tells_X7_openRow rfl rfl rfl (by decide +kernel) ⟨Nat.le_of_ble_eq_true rfl, Nat.le_of_ble_eq_true rfl⟩) ⟨CP.blind, (va_recv hev.1 (xro hR0 hap hS) (ci := 8) (q0 := 0) rfl rfl), (xpre hev hz hA hP hD hS hR0 hap [0, 1] rfl)⟩ rfl rfl hl.1 rfl (lv_room (Nat.le_of_ble_eq_true rfl)) dX7_tells_2 ⟨Nat.le_of_ble_eq_true rfl, Nat.le_of_ble_eq_true rfl⟩) hP hD hS hA (fun r1 w2 H locs h3 hP hD hS => ?_)
  obtain ⟨rfl, rfl, h3⟩ := h3
  try dsimp only at h3
  have hP : va_P E.1 vwCl [] H := hP
  have hD : va_D A [] := hD
  refine lv_astoreN (lv' := [(4, .null), (0, .ref x), (1, .int y), (2, .int z), (3, .int v)]) hx hb dX7_tells_5 hl (by decide) rfl (fun ls hl => ?_)
  refine lv_aloadN hx hb dX7_tells_7 (lv_at hl 0 rfl) ?_
  refine lv_ifnullN (tgt := 28) hx hb dX7_tells_9 (by decide) ?_
  refine lv_iconst (v := 0) hx hb dX7_tells_28 (by decide) ?_
  refine xrz hx hb hr hlocks (by first | rfl | decide | exact b1_narrow _) hP hD hS ⟨rfl, ?_, ?_⟩ dX7_tells_29
  · rfl
  · trivial

abbrev pX7_tells (E : xE) (x : Nat) (rg : Nat) (dr : Nat) (rs : Nat) (nr : Int32) (c0 : Nat) (h : Nat) (td : Nat) (rf : Nat → Option Nat) (w0 : Nat) (nu : Int32) (role : Int32) (ver : Int32) (unt : Int64) (oa : Nat) (oc : Nat) (qo : Nat) (tq : Nat) (dq : Nat) (ha : Nat) (pn : Nat) (sn : Nat) (rk : Int32) (ra : Nat) (va : Nat) (tn : Nat) (fr : Nat → Int32) (fv : Nat → Int32) (y : Int32) (z : Int32) (v : Int32) (r : Int32) (w : va_W) : Prop := ∃ (n2 : Nat) (gr : Nat → Int32) (gv : Nat → Int32), w = [(tq, .inr (7, [.ref ra, .ref va, .int (nI n2)])), (ra, aI E 7 gr), (va, aI E 7 gv)] ∧ (((sn = 0 ∧ may role z ∧ (¬ v < 1 ∧ ¬ 1000000 < v)) ∧ ∃ j, isPl fr tn z j ∧ r = b1 (j < 7) ∧ (j < 7 → n2 = max tn (j + 1) ∧ gr = upd fr j z ∧ gv = upd fv j v) ∧ (¬ j < 7 → n2 = tn ∧ gr = fr ∧ gv = fv)) ∨ (¬ (sn = 0 ∧ may role z ∧ (¬ v < 1 ∧ ¬ 1000000 < v)) ∧ r = 0 ∧ n2 = tn ∧ gr = fr ∧ gv = fv))
set_option maxHeartbeats 4000000 in
set_option maxRecDepth 100000 in
theorem kX7_tells (l : Launch) (E : xE) (x : Nat) (rg : Nat) (dr : Nat) (rs : Nat) (nr : Int32) (c0 : Nat) (h : Nat) (td : Nat) (rf : Nat → Option Nat) (w0 : Nat) (nu : Int32) (role : Int32) (ver : Int32) (unt : Int64) (oa : Nat) (oc : Nat) (qo : Nat) (tq : Nat) (dq : Nat) (ha : Nat) (pn : Nat) (sn : Nat) (rk : Int32) (ra : Nat) (va : Nat) (tn : Nat) (fr : Nat → Int32) (fv : Nat → Int32) (y : Int32) (z : Int32) (v : Int32) (hrx : rAt rf y = some w0) (hsn : sn ≤ 12) (htn : tn ≤ 7) : KT l yX7_tells wsX7_tells 2 45 0 0 E [(tq, .inr (7, [.ref ra, .ref va, .int (nI tn)])), (ra, aI E 7 fr), (va, aI E 7 fv)] [(x, .inr (8, [.ref rg, .ref dr, .ref rs, .int nr, .ref c0, .ref h, .ref td])), (rs, aR E 24 rf), (w0, .inr (5, [.int nu, .int role, .int ver, .long unt, .ref oa, .int (nI oc), .ref qo, .ref tq, .ref dq, .ref ha, .int (nI pn), .int (nI sn), .int rk]))] [.ref x, .int y, .int z, .int v] (QI E (pX7_tells E x rg dr rs nr c0 h td rf w0 nu role ver unt oa oc qo tq dq ha pn sn rk ra va tn fr fv y z v)) := by
  refine KT.start (cc := cX7_tells) (maxL := 5) (ret := (some .boolean)) (by decide) rfl (Nat.le_of_ble_eq_true rfl) ?_
  intro p e s m below meth c A H hx hb hr hlocks hml hts hown hin hP hR0 hD hap hev hz hA hS ls hl
  have hl : lv_has ls 5 [(0, .ref x), (1, .int y), (2, .int z), (3, .int v)] := hl
  have hiX4 : ∀ w ∈ wsX40, w ∈ wsX7_tells := by decide +kernel
  refine lv_aload_n hx hb dX7_tells_0 rfl (lv_at hl 0 rfl) ?_
  refine lv_iload_n hx hb dX7_tells_1 rfl (lv_at hl 1 rfl) ?_
  have hP := hP.sub (ws' := [] ++ [(tq, .inr (7, [.ref ra, .ref va, .int (nI tn)])), (ra, aI E 7 fr), (va, aI E 7 fv)]) [0, 1, 2] rfl
  have hD := hD.sub (ws' := [] ++ [(tq, .inr (7, [.ref ra, .ref va, .int (nI tn)])), (ra, aI E 7 fr), (va, aI E 7 fv)]) [0, 1, 2] (by decide) rfl
  refine xcr (va_runV (As := [.int y]) (rest := []) ⟨hx, hb, hml, hown, hts⟩ (kX7_openRow l E x rg dr rs nr c0 h td rf w0 nu role ver unt oa oc qo tq dq ha pn sn rk y (by first | assumption | omega) (by first | assumption | omega) H.size) (cwV 1 hts gX7_tells_X7_openRow rfl rfl rfl (by decide +kernel) ⟨Nat.le_of_ble_eq_true rfl, Nat.le_of_ble_eq_true rfl⟩) ⟨CP.blind, (va_recv hev.1 (xro hR0 hap hS) (ci := 8) (q0 := 0) rfl rfl), (xpre hev hz hA hP hD hS hR0 hap [3, 4, 5] rfl)⟩ rfl rfl hl.1 rfl (lv_room (Nat.le_of_ble_eq_true rfl)) dX7_tells_2 ⟨Nat.le_of_ble_eq_true rfl, Nat.le_of_ble_eq_true rfl⟩) hP hD hS hA (fun r1 w2 H locs h3 hP hD hS => ?_)
  obtain ⟨rfl, rfl, h3⟩ := h3
  try dsimp only at h3
  have hP : va_P E.1 vwCl [(tq, .inr (7, [.ref ra, .ref va, .int (nI tn)])), (ra, aI E 7 fr), (va, aI E 7 fv)] H := hP
  have hD : va_D A [(tq, .inr (7, [.ref ra, .ref va, .int (nI tn)])), (ra, aI E 7 fr), (va, aI E 7 fv)] := hD
  by_cases s4 : sn = 0
  · rw [if_pos s4]
    refine lv_astore (lv' := [(4, .ref w0), (0, .ref x), (1, .int y), (2, .int z), (3, .int v)]) hx hb dX7_tells_5 hl (by decide) rfl (fun ls hl => ?_)
    refine lv_aload hx hb dX7_tells_7 (lv_at hl 0 rfl) ?_
    refine lv_ifnull hx hb dX7_tells_9 ?_
    refine lv_aload hx hb dX7_tells_12 (lv_at hl 0 rfl) ?_
    refine lv_iload_n hx hb dX7_tells_14 rfl (lv_at hl 3 rfl) ?_
    have hP := hP.sub (ws' := [] ++ [(tq, .inr (7, [.ref ra, .ref va, .int (nI tn)])), (ra, aI E 7 fr), (va, aI E 7 fv)]) [0, 1, 2] rfl
    have hD := hD.sub (ws' := [] ++ [(tq, .inr (7, [.ref ra, .ref va, .int (nI tn)])), (ra, aI E 7 fr), (va, aI E 7 fv)]) [0, 1, 2] (by decide) rfl
    refine xci (va_runV (As := [.int z]) (rest := []) ⟨hx, hb, hml, hown, hts⟩ (kX4_mayTellOf l E w0 nu role ver unt oa oc qo tq dq ha pn (nI sn) rk z  H.size) (cwV 1 hts gX7_tells_X4_mayTellOf rfl rfl rfl (by decide +kernel) ⟨Nat.le_of_ble_eq_true rfl, Nat.le_of_ble_eq_true rfl⟩) ⟨CP.blind, (va_recv hev.1 (xro hR0 hap hS) (ci := 5) (q0 := 2) rfl rfl), (xpre hev hz hA hP hD hS hR0 hap [5] rfl)⟩ rfl rfl hl.1 rfl (lv_room (Nat.le_of_ble_eq_true rfl)) dX7_tells_15 ⟨Nat.le_of_ble_eq_true rfl, Nat.le_of_ble_eq_true rfl⟩) hP hD hS hA (fun r5 w6 H locs h7 hP hD hS => ?_)
    obtain ⟨rfl, rfl, h7⟩ := h7
    try dsimp only at h7
    have hP : va_P E.1 vwCl [(tq, .inr (7, [.ref ra, .ref va, .int (nI tn)])), (ra, aI E 7 fr), (va, aI E 7 fv)] H := hP
    have hD : va_D A [(tq, .inr (7, [.ref ra, .ref va, .int (nI tn)])), (ra, aI E 7 fr), (va, aI E 7 fv)] := hD
    refine lv_if_eq (tgt := 28) hx hb dX7_tells_18 (by decide) (fun c8 => ?_) (fun c8 => ?_)
    · skip
      have kc8 := b1_0.mp c8
      refine lv_iconst (v := 0) hx hb dX7_tells_28 (by decide) ?_
      refine xrz hx hb hr hlocks (by first | rfl | decide | exact b1_narrow _) hP hD hS ⟨tn, fr, fv, rfl, ?_⟩ dX7_tells_29
      exact Or.inr ⟨fun q => kc8 q.2.1, rfl, rfl, rfl, rfl⟩
    · skip
      have kc8 := b1_n.mp c8
      refine lv_iload_n hx hb dX7_tells_21 rfl (lv_at hl 4 rfl) ?_
      have hP := hP.sub (ws' := [] ++ [(tq, .inr (7, [.ref ra, .ref va, .int (nI tn)])), (ra, aI E 7 fr), (va, aI E 7 fv)]) [0, 1, 2] rfl
      have hD := hD.sub (ws' := [] ++ [(tq, .inr (7, [.ref ra, .ref va, .int (nI tn)])), (ra, aI E 7 fr), (va, aI E 7 fv)]) [0, 1, 2] (by decide) rfl
      refine xci (va_runS (As := [.int v]) (rest := []) ⟨hx, hb, hml, hown, hts⟩ (kX7_isVersion l E v  H.size) (va_cwS 1 hts gX7_tells_X7_isVersion rfl rfl rfl (by decide +kernel) ⟨Nat.le_of_ble_eq_true rfl, Nat.le_of_ble_eq_true rfl⟩) ⟨CP.blind, (xpre hev hz hA hP hD hS hR0 hap [] rfl)⟩ rfl rfl hl.1 rfl (lv_room (Nat.le_of_ble_eq_true rfl)) dX7_tells_22 ⟨Nat.le_of_ble_eq_true rfl, Nat.le_of_ble_eq_true rfl⟩) hP hD hS hA (fun r9 w10 H locs h11 hP hD hS => ?_)
      obtain ⟨rfl, rfl, h11⟩ := h11
      try dsimp only at h11
      have hP : va_P E.1 vwCl [(tq, .inr (7, [.ref ra, .ref va, .int (nI tn)])), (ra, aI E 7 fr), (va, aI E 7 fv)] H := hP
      have hD : va_D A [(tq, .inr (7, [.ref ra, .ref va, .int (nI tn)])), (ra, aI E 7 fr), (va, aI E 7 fv)] := hD
      refine lv_if_ne (tgt := 30) hx hb dX7_tells_25 (by decide) (fun c12 => ?_) (fun c12 => ?_)
      · skip
        have kc12 := b1_n.mp c12
        refine lv_aload hx hb dX7_tells_30 (lv_at hl 0 rfl) ?_
        refine va_getN (D := E.1) (ci := 5) (v := .ref tq) (C := RX4) (T := TX4) (N := 13) hx hb hts hiX4 hown hev.1 (xro hR0 hap hS) 2 rfl rfl 7 (by decide) (xNF13 hev.2.1) (fun _ h9 => h9) rfl dX7_tells_32 ?_
        refine lv_iload_n hx hb dX7_tells_35 rfl (lv_at hl 3 rfl) ?_
        refine lv_iload_n hx hb dX7_tells_36 rfl (lv_at hl 4 rfl) ?_
        have hP := hP.sub (ws' := [(tq, .inr (7, [.ref ra, .ref va, .int (nI tn)])), (ra, aI E 7 fr), (va, aI E 7 fv)] ++ []) [0, 1, 2] rfl
        have hD := hD.sub (ws' := [(tq, .inr (7, [.ref ra, .ref va, .int (nI tn)])), (ra, aI E 7 fr), (va, aI E 7 fv)] ++ []) [0, 1, 2] (by decide) rfl
        refine xci (va_runV (As := [.int z, .int v]) (rest := []) ⟨hx, hb, hml, hown, hts⟩ (kX6_put l E tq ra va tn fr fv z v (by first | assumption | omega) H.size) (cwV 2 hts gX7_tells_X6_put rfl rfl rfl (by decide +kernel) ⟨Nat.le_of_ble_eq_true rfl, Nat.le_of_ble_eq_true rfl⟩) ⟨CP.blind, (va_recv hev.1 hP.left (ci := 7) (q0 := 0) rfl rfl), (xpre hev hz hA hP hD hS hR0 hap [] rfl)⟩ rfl rfl hl.1 rfl (lv_room (Nat.le_of_ble_eq_true rfl)) dX7_tells_37 ⟨Nat.le_of_ble_eq_true rfl, Nat.le_of_ble_eq_true rfl⟩) hP hD hS hA (fun r13 w14 H locs h15 hP hD hS => ?_)
        obtain ⟨n216, gr17, gv18, j19, rfl, rfl, h15⟩ := h15
        try dsimp only at h15
        have hP : va_P E.1 vwCl [(tq, .inr (7, [.ref ra, .ref va, .int (nI n216)])), (ra, aI E 7 gr17), (va, aI E 7 gv18)] H := hP
        have hD : va_D A [(tq, .inr (7, [.ref ra, .ref va, .int (nI n216)])), (ra, aI E 7 gr17), (va, aI E 7 gv18)] := hD
        refine xrz hx hb hr hlocks (by first | rfl | decide | exact b1_narrow _) hP hD hS ⟨n216, gr17, gv18, rfl, ?_⟩ dX7_tells_40
        exact Or.inl ⟨⟨s4, kc8, kc12⟩, j19, h15.1, rfl, h15.2⟩
      · skip
        have kc12 := b1_0.mp c12
        refine lv_iconst (v := 0) hx hb dX7_tells_28 (by decide) ?_
        refine xrz hx hb hr hlocks (by first | rfl | decide | exact b1_narrow _) hP hD hS ⟨tn, fr, fv, rfl, ?_⟩ dX7_tells_29
        exact Or.inr ⟨fun q => kc12 q.2.2, rfl, rfl, rfl, rfl⟩
  · rw [if_neg s4]
    refine lv_astoreN (lv' := [(4, .null), (0, .ref x), (1, .int y), (2, .int z), (3, .int v)]) hx hb dX7_tells_5 hl (by decide) rfl (fun ls hl => ?_)
    refine lv_aloadN hx hb dX7_tells_7 (lv_at hl 0 rfl) ?_
    refine lv_ifnullN (tgt := 28) hx hb dX7_tells_9 (by decide) ?_
    refine lv_iconst (v := 0) hx hb dX7_tells_28 (by decide) ?_
    refine xrz hx hb hr hlocks (by first | rfl | decide | exact b1_narrow _) hP hD hS ⟨tn, fr, fv, rfl, ?_⟩ dX7_tells_29
    exact Or.inr ⟨fun q => s4 q.1, rfl, rfl, rfl, rfl⟩

abbrev pX7_delegateN (E : xE) (x : Nat) (rg : Nat) (dr : Nat) (rs : Nat) (nr : Int32) (c0 : Nat) (h : Nat) (td : Nat) (rf : Nat → Option Nat) (y : Int32) (u : Int32) (z : Int32) (en : Int32) (r : Int32) (w : va_W) : Prop := w = [] ∧ r = -1 ∧ (True)
set_option maxHeartbeats 4000000 in
set_option maxRecDepth 100000 in
theorem kX7_delegateN (l : Launch) (E : xE) (x : Nat) (rg : Nat) (dr : Nat) (rs : Nat) (nr : Int32) (c0 : Nat) (h : Nat) (td : Nat) (rf : Nat → Option Nat) (y : Int32) (u : Int32) (z : Int32) (en : Int32) (hrx : rAt rf y = none) : KT l yX7_delegate wsX7_delegate 2 43 0 0 E [] [(x, .inr (8, [.ref rg, .ref dr, .ref rs, .int nr, .ref c0, .ref h, .ref td])), (rs, aR E 24 rf)] [.ref x, .int y, .int u, .int z, .int en] (QI E (pX7_delegateN E x rg dr rs nr c0 h td rf y u z en)) := by
  refine KT.start (cc := cX7_delegate) (maxL := 6) (ret := (some .int)) (by decide) rfl (Nat.le_of_ble_eq_true rfl) ?_
  intro p e s m below meth c A H hx hb hr hlocks hml hts hown hin hP hR0 hD hap hev hz hA hS ls hl
  have hl : lv_has ls 6 [(0, .ref x), (1, .int y), (2, .int u), (3, .int z), (4, .int en)] := hl
  refine lv_aload_n hx hb dX7_delegate_0 rfl (lv_at hl 0 rfl) ?_
  refine lv_iload_n hx hb dX7_delegate_1 rfl (lv_at hl 1 rfl) ?_
  have hP := hP.sub (ws' := [] ++ []) [] rfl
  have hD := hD.sub (ws' := [] ++ []) [] (by decide) rfl
  refine xcr (va_runV (As := [.int y]) (rest := []) ⟨hx, hb, hml, hown, hts⟩ (kX7_openRowN l E x rg dr rs nr c0 h td rf y (by first | assumption | omega) H.size) (cwV 1 hts gX7_delegate_X7_openRow rfl rfl rfl (by decide +kernel) ⟨Nat.le_of_ble_eq_true rfl, Nat.le_of_ble_eq_true rfl⟩) ⟨CP.blind, (va_recv hev.1 (xro hR0 hap hS) (ci := 8) (q0 := 0) rfl rfl), (xpre hev hz hA hP hD hS hR0 hap [0, 1] rfl)⟩ rfl rfl hl.1 rfl (lv_room (Nat.le_of_ble_eq_true rfl)) dX7_delegate_2 ⟨Nat.le_of_ble_eq_true rfl, Nat.le_of_ble_eq_true rfl⟩) hP hD hS hA (fun r1 w2 H locs h3 hP hD hS => ?_)
  obtain ⟨rfl, rfl, h3⟩ := h3
  try dsimp only at h3
  have hP : va_P E.1 vwCl [] H := hP
  have hD : va_D A [] := hD
  refine lv_astoreN (lv' := [(5, .null), (0, .ref x), (1, .int y), (2, .int u), (3, .int z), (4, .int en)]) hx hb dX7_delegate_5 hl (by decide) rfl (fun ls hl => ?_)
  refine lv_aloadN hx hb dX7_delegate_7 (lv_at hl 0 rfl) ?_
  refine lv_ifnullN (tgt := 27) hx hb dX7_delegate_9 (by decide) ?_
  refine lv_iconst (v := (-1)) hx hb dX7_delegate_27 (by decide) ?_
  refine xri hx hb hr hlocks hP hD hS ⟨rfl, ?_, ?_⟩ dX7_delegate_28
  · rfl
  · trivial

abbrev pX7_delegate (E : xE) (x : Nat) (rg : Nat) (dr : Nat) (rs : Nat) (nr : Int32) (c0 : Nat) (h : Nat) (td : Nat) (rf : Nat → Option Nat) (w0 : Nat) (nu : Int32) (role : Int32) (ver : Int32) (unt : Int64) (oa : Nat) (oc : Nat) (qo : Nat) (tq : Nat) (dq : Nat) (ha : Nat) (pn : Nat) (sn : Nat) (rk : Int32) (pa : Nat) (ta : Nat) (ea : Nat) (dn : Nat) (fp : Nat → Int32) (ft : Nat → Int32) (fe : Nat → Int32) (y : Int32) (u : Int32) (z : Int32) (en : Int32) (r : Int32) (w : va_W) : Prop := ∃ (n2 : Nat) (gp : Nat → Int32) (gt : Nat → Int32) (ge : Nat → Int32), w = [(dq, .inr (2, [.ref pa, .ref ta, .ref ea, .int (nI n2)])), (pa, aI E 6 gp), (ta, aI E 6 gt), (ea, aZ E 6 ge)] ∧ (((sn = 0 ∧ ¬ role < 3 ∧ ¬ cnt u 15 = 0 ∧ ¬ z < 4 ∧ z < 10 ∧ dn < 6) ∧ r = nI (dn + 1) ∧ n2 = dn + 1 ∧ gp = upd fp dn u ∧ gt = upd ft dn z ∧ ge = upd fe dn (vp_nar .boolean en)) ∨ (¬ (sn = 0 ∧ ¬ role < 3 ∧ ¬ cnt u 15 = 0 ∧ ¬ z < 4 ∧ z < 10 ∧ dn < 6) ∧ r = -1 ∧ n2 = dn ∧ gp = fp ∧ gt = ft ∧ ge = fe))
set_option maxHeartbeats 4000000 in
set_option maxRecDepth 100000 in
theorem kX7_delegate (l : Launch) (E : xE) (x : Nat) (rg : Nat) (dr : Nat) (rs : Nat) (nr : Int32) (c0 : Nat) (h : Nat) (td : Nat) (rf : Nat → Option Nat) (w0 : Nat) (nu : Int32) (role : Int32) (ver : Int32) (unt : Int64) (oa : Nat) (oc : Nat) (qo : Nat) (tq : Nat) (dq : Nat) (ha : Nat) (pn : Nat) (sn : Nat) (rk : Int32) (pa : Nat) (ta : Nat) (ea : Nat) (dn : Nat) (fp : Nat → Int32) (ft : Nat → Int32) (fe : Nat → Int32) (y : Int32) (u : Int32) (z : Int32) (en : Int32) (hrx : rAt rf y = some w0) (hsn : sn ≤ 12) (hdn : dn ≤ 6) : KT l yX7_delegate wsX7_delegate 2 44 0 0 E [(dq, .inr (2, [.ref pa, .ref ta, .ref ea, .int (nI dn)])), (pa, aI E 6 fp), (ta, aI E 6 ft), (ea, aZ E 6 fe)] [(x, .inr (8, [.ref rg, .ref dr, .ref rs, .int nr, .ref c0, .ref h, .ref td])), (rs, aR E 24 rf), (w0, .inr (5, [.int nu, .int role, .int ver, .long unt, .ref oa, .int (nI oc), .ref qo, .ref tq, .ref dq, .ref ha, .int (nI pn), .int (nI sn), .int rk]))] [.ref x, .int y, .int u, .int z, .int en] (QI E (pX7_delegate E x rg dr rs nr c0 h td rf w0 nu role ver unt oa oc qo tq dq ha pn sn rk pa ta ea dn fp ft fe y u z en)) := by
  refine KT.start (cc := cX7_delegate) (maxL := 6) (ret := (some .int)) (by decide) rfl (Nat.le_of_ble_eq_true rfl) ?_
  intro p e s m below meth c A H hx hb hr hlocks hml hts hown hin hP hR0 hD hap hev hz hA hS ls hl
  have hl : lv_has ls 6 [(0, .ref x), (1, .int y), (2, .int u), (3, .int z), (4, .int en)] := hl
  have hiX4 : ∀ w ∈ wsX40, w ∈ wsX7_delegate := by decide +kernel
  have hcu := cnt_le u 15
  refine lv_aload_n hx hb dX7_delegate_0 rfl (lv_at hl 0 rfl) ?_
  refine lv_iload_n hx hb dX7_delegate_1 rfl (lv_at hl 1 rfl) ?_
  have hP := hP.sub (ws' := [] ++ [(dq, .inr (2, [.ref pa, .ref ta, .ref ea, .int (nI dn)])), (pa, aI E 6 fp), (ta, aI E 6 ft), (ea, aZ E 6 fe)]) [0, 1, 2, 3] rfl
  have hD := hD.sub (ws' := [] ++ [(dq, .inr (2, [.ref pa, .ref ta, .ref ea, .int (nI dn)])), (pa, aI E 6 fp), (ta, aI E 6 ft), (ea, aZ E 6 fe)]) [0, 1, 2, 3] (by decide) rfl
  refine xcr (va_runV (As := [.int y]) (rest := []) ⟨hx, hb, hml, hown, hts⟩ (kX7_openRow l E x rg dr rs nr c0 h td rf w0 nu role ver unt oa oc qo tq dq ha pn sn rk y (by first | assumption | omega) (by first | assumption | omega) H.size) (cwV 1 hts gX7_delegate_X7_openRow rfl rfl rfl (by decide +kernel) ⟨Nat.le_of_ble_eq_true rfl, Nat.le_of_ble_eq_true rfl⟩) ⟨CP.blind, (va_recv hev.1 (xro hR0 hap hS) (ci := 8) (q0 := 0) rfl rfl), (xpre hev hz hA hP hD hS hR0 hap [4, 5, 6] rfl)⟩ rfl rfl hl.1 rfl (lv_room (Nat.le_of_ble_eq_true rfl)) dX7_delegate_2 ⟨Nat.le_of_ble_eq_true rfl, Nat.le_of_ble_eq_true rfl⟩) hP hD hS hA (fun r1 w2 H locs h3 hP hD hS => ?_)
  obtain ⟨rfl, rfl, h3⟩ := h3
  try dsimp only at h3
  have hP : va_P E.1 vwCl [(dq, .inr (2, [.ref pa, .ref ta, .ref ea, .int (nI dn)])), (pa, aI E 6 fp), (ta, aI E 6 ft), (ea, aZ E 6 fe)] H := hP
  have hD : va_D A [(dq, .inr (2, [.ref pa, .ref ta, .ref ea, .int (nI dn)])), (pa, aI E 6 fp), (ta, aI E 6 ft), (ea, aZ E 6 fe)] := hD
  by_cases s4 : sn = 0
  · rw [if_pos s4]
    refine lv_astore (lv' := [(5, .ref w0), (0, .ref x), (1, .int y), (2, .int u), (3, .int z), (4, .int en)]) hx hb dX7_delegate_5 hl (by decide) rfl (fun ls hl => ?_)
    refine lv_aload hx hb dX7_delegate_7 (lv_at hl 0 rfl) ?_
    refine lv_ifnull hx hb dX7_delegate_9 ?_
    refine lv_aload hx hb dX7_delegate_12 (lv_at hl 0 rfl) ?_
    have hP := hP.sub (ws' := [] ++ [(dq, .inr (2, [.ref pa, .ref ta, .ref ea, .int (nI dn)])), (pa, aI E 6 fp), (ta, aI E 6 ft), (ea, aZ E 6 fe)]) [0, 1, 2, 3] rfl
    have hD := hD.sub (ws' := [] ++ [(dq, .inr (2, [.ref pa, .ref ta, .ref ea, .int (nI dn)])), (pa, aI E 6 fp), (ta, aI E 6 ft), (ea, aZ E 6 fe)]) [0, 1, 2, 3] (by decide) rfl
    refine xci (va_runV (As := []) (rest := []) ⟨hx, hb, hml, hown, hts⟩ (kX4_tellsOfPaths l E w0 nu role ver unt oa oc qo tq dq ha pn (nI sn) rk  H.size) (cwV 0 hts gX7_delegate_X4_tellsOfPaths rfl rfl rfl (by decide +kernel) ⟨Nat.le_of_ble_eq_true rfl, Nat.le_of_ble_eq_true rfl⟩) ⟨CP.blind, (va_recv hev.1 (xro hR0 hap hS) (ci := 5) (q0 := 2) rfl rfl), (xpre hev hz hA hP hD hS hR0 hap [6] rfl)⟩ rfl rfl hl.1 rfl (lv_room (Nat.le_of_ble_eq_true rfl)) dX7_delegate_14 ⟨Nat.le_of_ble_eq_true rfl, Nat.le_of_ble_eq_true rfl⟩) hP hD hS hA (fun r5 w6 H locs h7 hP hD hS => ?_)
    obtain ⟨rfl, rfl, h7⟩ := h7
    try dsimp only at h7
    have hP : va_P E.1 vwCl [(dq, .inr (2, [.ref pa, .ref ta, .ref ea, .int (nI dn)])), (pa, aI E 6 fp), (ta, aI E 6 ft), (ea, aZ E 6 fe)] H := hP
    have hD : va_D A [(dq, .inr (2, [.ref pa, .ref ta, .ref ea, .int (nI dn)])), (pa, aI E 6 fp), (ta, aI E 6 ft), (ea, aZ E 6 fe)] := hD
    refine lv_if_eq (tgt := 27) hx hb dX7_delegate_17 (by decide) (fun c8 => ?_) (fun c8 => ?_)
    · skip
      have kc8 := b1_0.mp c8
      refine lv_iconst (v := (-1)) hx hb dX7_delegate_27 (by decide) ?_
      refine xri hx hb hr hlocks hP hD hS ⟨dn, fp, ft, fe, rfl, ?_⟩ dX7_delegate_28
      exact Or.inr ⟨fun q => kc8 q.2.1, rfl, rfl, rfl, rfl, rfl⟩
    · skip
      have kc8 := b1_n.mp c8
      refine lv_iload_n hx hb dX7_delegate_20 rfl (lv_at hl 3 rfl) ?_
      have hP := hP.sub (ws' := [] ++ [(dq, .inr (2, [.ref pa, .ref ta, .ref ea, .int (nI dn)])), (pa, aI E 6 fp), (ta, aI E 6 ft), (ea, aZ E 6 fe)]) [0, 1, 2, 3] rfl
      have hD := hD.sub (ws' := [] ++ [(dq, .inr (2, [.ref pa, .ref ta, .ref ea, .int (nI dn)])), (pa, aI E 6 fp), (ta, aI E 6 ft), (ea, aZ E 6 fe)]) [0, 1, 2, 3] (by decide) rfl
      refine xci (va_runS (As := [.int u]) (rest := []) ⟨hx, hb, hml, hown, hts⟩ (kX7_partsOfPattern l E u  H.size) (va_cwS 1 hts gX7_delegate_X7_partsOfPattern rfl rfl rfl (by decide +kernel) ⟨Nat.le_of_ble_eq_true rfl, Nat.le_of_ble_eq_true rfl⟩) ⟨CP.blind, (xpre hev hz hA hP hD hS hR0 hap [] rfl)⟩ rfl rfl hl.1 rfl (lv_room (Nat.le_of_ble_eq_true rfl)) dX7_delegate_21 ⟨Nat.le_of_ble_eq_true rfl, Nat.le_of_ble_eq_true rfl⟩) hP hD hS hA (fun r9 w10 H locs h11 hP hD hS => ?_)
      obtain ⟨rfl, rfl, h11⟩ := h11
      try dsimp only at h11
      have hP : va_P E.1 vwCl [(dq, .inr (2, [.ref pa, .ref ta, .ref ea, .int (nI dn)])), (pa, aI E 6 fp), (ta, aI E 6 ft), (ea, aZ E 6 fe)] H := hP
      have hD : va_D A [(dq, .inr (2, [.ref pa, .ref ta, .ref ea, .int (nI dn)])), (pa, aI E 6 fp), (ta, aI E 6 ft), (ea, aZ E 6 fe)] := hD
      refine lv_if_ne (tgt := 29) hx hb dX7_delegate_24 (by decide) (fun c12 => ?_) (fun c12 => ?_)
      · skip
        have kc12 : ¬ (cnt u 15) = 0 := fun h9 => c12 ((nI_eq (a := (cnt u 15)) (b := 0) (by omega) (by omega)).mpr h9)
        refine lv_iload_n hx hb dX7_delegate_29 rfl (lv_at hl 4 rfl) ?_
        refine lv_iconst (v := 4) hx hb dX7_delegate_30 (by decide) ?_
        refine lv_icmp_lt (tgt := 40) hx hb dX7_delegate_31 (by decide) (fun c13 => ?_) (fun c13 => ?_)
        · skip
          refine lv_iconst (v := (-1)) hx hb dX7_delegate_40 (by decide) ?_
          refine xri hx hb hr hlocks hP hD hS ⟨dn, fp, ft, fe, rfl, ?_⟩ dX7_delegate_41
          exact Or.inr ⟨fun q => q.2.2.2.1 c13, rfl, rfl, rfl, rfl, rfl⟩
        · skip
          refine lv_iload_n hx hb dX7_delegate_34 rfl (lv_at hl 4 rfl) ?_
          refine lv_bipush (v := 10) hx hb dX7_delegate_35 (by decide) ?_
          refine lv_icmp_lt (tgt := 42) hx hb dX7_delegate_37 (by decide) (fun c14 => ?_) (fun c14 => ?_)
          · skip
            refine lv_aload hx hb dX7_delegate_42 (lv_at hl 0 rfl) ?_
            refine va_getN (D := E.1) (ci := 5) (v := .ref dq) (C := RX4) (T := TX4) (N := 13) hx hb hts hiX4 hown hev.1 (xro hR0 hap hS) 2 rfl rfl 8 (by decide) (xNF15 hev.2.1) (fun _ h9 => h9) rfl dX7_delegate_44 ?_
            refine lv_iload_n hx hb dX7_delegate_47 rfl (lv_at hl 3 rfl) ?_
            refine lv_iload_n hx hb dX7_delegate_48 rfl (lv_at hl 4 rfl) ?_
            refine lv_iload hx hb dX7_delegate_49 (lv_at hl 5 rfl) ?_
            have hP := hP.sub (ws' := [(dq, .inr (2, [.ref pa, .ref ta, .ref ea, .int (nI dn)])), (pa, aI E 6 fp), (ta, aI E 6 ft), (ea, aZ E 6 fe)] ++ []) [0, 1, 2, 3] rfl
            have hD := hD.sub (ws' := [(dq, .inr (2, [.ref pa, .ref ta, .ref ea, .int (nI dn)])), (pa, aI E 6 fp), (ta, aI E 6 ft), (ea, aZ E 6 fe)] ++ []) [0, 1, 2, 3] (by decide) rfl
            refine xci (va_runV (As := [.int u, .int z, .int en]) (rest := []) ⟨hx, hb, hml, hown, hts⟩ (kX1_add l E dq pa ta ea dn fp ft fe u z en (by first | assumption | omega) H.size) (cwV 3 hts gX7_delegate_X1_add rfl rfl rfl (by decide +kernel) ⟨Nat.le_of_ble_eq_true rfl, Nat.le_of_ble_eq_true rfl⟩) ⟨CP.blind, (va_recv hev.1 hP.left (ci := 2) (q0 := 0) rfl rfl), (xpre hev hz hA hP hD hS hR0 hap [] rfl)⟩ rfl rfl hl.1 rfl (lv_room (Nat.le_of_ble_eq_true rfl)) dX7_delegate_51 ⟨Nat.le_of_ble_eq_true rfl, Nat.le_of_ble_eq_true rfl⟩) hP hD hS hA (fun r15 w16 H locs h17 hP hD hS => ?_)
            obtain ⟨n218, gp19, gt20, ge21, rfl, h17⟩ := h17
            try dsimp only at h17
            have hP : va_P E.1 vwCl [(dq, .inr (2, [.ref pa, .ref ta, .ref ea, .int (nI n218)])), (pa, aI E 6 gp19), (ta, aI E 6 gt20), (ea, aZ E 6 ge21)] H := hP
            have hD : va_D A [(dq, .inr (2, [.ref pa, .ref ta, .ref ea, .int (nI n218)])), (pa, aI E 6 gp19), (ta, aI E 6 gt20), (ea, aZ E 6 ge21)] := hD
            refine xri hx hb hr hlocks hP hD hS ⟨n218, gp19, gt20, ge21, rfl, ?_⟩ dX7_delegate_54
            exact h17.elim (fun ⟨q1, q2, q3, q4, q5, q6⟩ => Or.inr ⟨fun q => absurd q.2.2.2.2.2 (by omega), q2, q3, q4, q5, q6⟩) (fun ⟨q1, q2, q3, q4, q5, q6⟩ => Or.inl ⟨⟨s4, kc8, kc12, c13, c14, q1⟩, q2, q3, q4, q5, q6⟩)
          · skip
            refine lv_iconst (v := (-1)) hx hb dX7_delegate_40 (by decide) ?_
            refine xri hx hb hr hlocks hP hD hS ⟨dn, fp, ft, fe, rfl, ?_⟩ dX7_delegate_41
            exact Or.inr ⟨fun q => c14 q.2.2.2.2.1, rfl, rfl, rfl, rfl, rfl⟩
      · skip
        have kc12 : (cnt u 15) = 0 := (nI_eq (a := (cnt u 15)) (b := 0) (by omega) (by omega)).mp c12
        refine lv_iconst (v := (-1)) hx hb dX7_delegate_27 (by decide) ?_
        refine xri hx hb hr hlocks hP hD hS ⟨dn, fp, ft, fe, rfl, ?_⟩ dX7_delegate_28
        exact Or.inr ⟨fun q => q.2.2.1 kc12, rfl, rfl, rfl, rfl, rfl⟩
  · rw [if_neg s4]
    refine lv_astoreN (lv' := [(5, .null), (0, .ref x), (1, .int y), (2, .int u), (3, .int z), (4, .int en)]) hx hb dX7_delegate_5 hl (by decide) rfl (fun ls hl => ?_)
    refine lv_aloadN hx hb dX7_delegate_7 (lv_at hl 0 rfl) ?_
    refine lv_ifnullN (tgt := 27) hx hb dX7_delegate_9 (by decide) ?_
    refine lv_iconst (v := (-1)) hx hb dX7_delegate_27 (by decide) ?_
    refine xri hx hb hr hlocks hP hD hS ⟨dn, fp, ft, fe, rfl, ?_⟩ dX7_delegate_28
    exact Or.inr ⟨fun q => s4 q.1, rfl, rfl, rfl, rfl, rfl⟩

abbrev pX7_listsN (E : xE) (x : Nat) (rg : Nat) (dr : Nat) (rs : Nat) (nr : Int32) (c0 : Nat) (h : Nat) (td : Nat) (rf : Nat → Option Nat) (y : Int32) (u : Int32) (r : Int32) (w : va_W) : Prop := w = [] ∧ r = -1 ∧ (True)
set_option maxHeartbeats 4000000 in
set_option maxRecDepth 100000 in
theorem kX7_listsN (l : Launch) (E : xE) (x : Nat) (rg : Nat) (dr : Nat) (rs : Nat) (nr : Int32) (c0 : Nat) (h : Nat) (td : Nat) (rf : Nat → Option Nat) (y : Int32) (u : Int32) (hrx : rAt rf y = none) : KT l yX7_lists wsX7_lists 2 43 0 0 E [] [(x, .inr (8, [.ref rg, .ref dr, .ref rs, .int nr, .ref c0, .ref h, .ref td])), (rs, aR E 24 rf)] [.ref x, .int y, .int u] (QI E (pX7_listsN E x rg dr rs nr c0 h td rf y u)) := by
  refine KT.start (cc := cX7_lists) (maxL := 4) (ret := (some .int)) (by decide) rfl (Nat.le_of_ble_eq_true rfl) ?_
  intro p e s m below meth c A H hx hb hr hlocks hml hts hown hin hP hR0 hD hap hev hz hA hS ls hl
  have hl : lv_has ls 4 [(0, .ref x), (1, .int y), (2, .int u)] := hl
  refine lv_aload_n hx hb dX7_lists_0 rfl (lv_at hl 0 rfl) ?_
  refine lv_iload_n hx hb dX7_lists_1 rfl (lv_at hl 1 rfl) ?_
  have hP := hP.sub (ws' := [] ++ []) [] rfl
  have hD := hD.sub (ws' := [] ++ []) [] (by decide) rfl
  refine xcr (va_runV (As := [.int y]) (rest := []) ⟨hx, hb, hml, hown, hts⟩ (kX7_openRowN l E x rg dr rs nr c0 h td rf y (by first | assumption | omega) H.size) (cwV 1 hts gX7_lists_X7_openRow rfl rfl rfl (by decide +kernel) ⟨Nat.le_of_ble_eq_true rfl, Nat.le_of_ble_eq_true rfl⟩) ⟨CP.blind, (va_recv hev.1 (xro hR0 hap hS) (ci := 8) (q0 := 0) rfl rfl), (xpre hev hz hA hP hD hS hR0 hap [0, 1] rfl)⟩ rfl rfl hl.1 rfl (lv_room (Nat.le_of_ble_eq_true rfl)) dX7_lists_2 ⟨Nat.le_of_ble_eq_true rfl, Nat.le_of_ble_eq_true rfl⟩) hP hD hS hA (fun r1 w2 H locs h3 hP hD hS => ?_)
  obtain ⟨rfl, rfl, h3⟩ := h3
  try dsimp only at h3
  have hP : va_P E.1 vwCl [] H := hP
  have hD : va_D A [] := hD
  refine lv_astore_nN (lv' := [(3, .null), (0, .ref x), (1, .int y), (2, .int u)]) hx hb dX7_lists_5 rfl hl (by decide) rfl (fun ls hl => ?_)
  refine lv_aload_nN hx hb dX7_lists_6 rfl (lv_at hl 0 rfl) ?_
  refine lv_ifnullN (tgt := 24) hx hb dX7_lists_7 (by decide) ?_
  refine lv_iconst (v := (-1)) hx hb dX7_lists_24 (by decide) ?_
  refine xri hx hb hr hlocks hP hD hS ⟨rfl, ?_, ?_⟩ dX7_lists_25
  · rfl
  · trivial

abbrev pX7_lists (E : xE) (x : Nat) (rg : Nat) (dr : Nat) (rs : Nat) (nr : Int32) (c0 : Nat) (h : Nat) (td : Nat) (rf : Nat → Option Nat) (w0 : Nat) (nu : Int32) (role : Int32) (ver : Int32) (unt : Int64) (oa : Nat) (oc : Nat) (qo : Nat) (tq : Nat) (dq : Nat) (ha : Nat) (pn : Nat) (sn : Nat) (rk : Int32) (fh : Nat → Int32) (y : Int32) (u : Int32) (r : Int32) (w : va_W) : Prop := ∃ (pn2 : Nat) (gh : Nat → Int32), w = [(w0, .inr (5, [.int nu, .int role, .int ver, .long unt, .ref oa, .int (nI oc), .ref qo, .ref tq, .ref dq, .ref ha, .int (nI pn2), .int (nI sn), .int rk])), (ha, aI E 6 gh)] ∧ (((sn = 0 ∧ ¬ role < 3 ∧ ¬ cnt u 14 = 0 ∧ pn < 6) ∧ r = nI (pn + 1) ∧ pn2 = pn + 1 ∧ gh = upd fh pn u) ∨ (¬ (sn = 0 ∧ ¬ role < 3 ∧ ¬ cnt u 14 = 0 ∧ pn < 6) ∧ r = -1 ∧ pn2 = pn ∧ gh = fh))
set_option maxHeartbeats 4000000 in
set_option maxRecDepth 100000 in
theorem kX7_lists (l : Launch) (E : xE) (x : Nat) (rg : Nat) (dr : Nat) (rs : Nat) (nr : Int32) (c0 : Nat) (h : Nat) (td : Nat) (rf : Nat → Option Nat) (w0 : Nat) (nu : Int32) (role : Int32) (ver : Int32) (unt : Int64) (oa : Nat) (oc : Nat) (qo : Nat) (tq : Nat) (dq : Nat) (ha : Nat) (pn : Nat) (sn : Nat) (rk : Int32) (fh : Nat → Int32) (y : Int32) (u : Int32) (hrx : rAt rf y = some w0) (hsn : sn ≤ 12) (hpn : pn ≤ 6) : KT l yX7_lists wsX7_lists 2 44 0 0 E [(w0, .inr (5, [.int nu, .int role, .int ver, .long unt, .ref oa, .int (nI oc), .ref qo, .ref tq, .ref dq, .ref ha, .int (nI pn), .int (nI sn), .int rk])), (ha, aI E 6 fh)] [(x, .inr (8, [.ref rg, .ref dr, .ref rs, .int nr, .ref c0, .ref h, .ref td])), (rs, aR E 24 rf)] [.ref x, .int y, .int u] (QI E (pX7_lists E x rg dr rs nr c0 h td rf w0 nu role ver unt oa oc qo tq dq ha pn sn rk fh y u)) := by
  refine KT.start (cc := cX7_lists) (maxL := 4) (ret := (some .int)) (by decide) rfl (Nat.le_of_ble_eq_true rfl) ?_
  intro p e s m below meth c A H hx hb hr hlocks hml hts hown hin hP hR0 hD hap hev hz hA hS ls hl
  have hl : lv_has ls 4 [(0, .ref x), (1, .int y), (2, .int u)] := hl
  have hcu := cnt_le u 14
  refine lv_aload_n hx hb dX7_lists_0 rfl (lv_at hl 0 rfl) ?_
  refine lv_iload_n hx hb dX7_lists_1 rfl (lv_at hl 1 rfl) ?_
  have hP := hP.sub (ws' := [] ++ [(w0, .inr (5, [.int nu, .int role, .int ver, .long unt, .ref oa, .int (nI oc), .ref qo, .ref tq, .ref dq, .ref ha, .int (nI pn), .int (nI sn), .int rk])), (ha, aI E 6 fh)]) [0, 1] rfl
  have hD := hD.sub (ws' := [] ++ [(w0, .inr (5, [.int nu, .int role, .int ver, .long unt, .ref oa, .int (nI oc), .ref qo, .ref tq, .ref dq, .ref ha, .int (nI pn), .int (nI sn), .int rk])), (ha, aI E 6 fh)]) [0, 1] (by decide) rfl
  refine xcr (va_runV (As := [.int y]) (rest := []) ⟨hx, hb, hml, hown, hts⟩ (kX7_openRow l E x rg dr rs nr c0 h td rf w0 nu role ver unt oa oc qo tq dq ha pn sn rk y (by first | assumption | omega) (by first | assumption | omega) H.size) (cwV 1 hts gX7_lists_X7_openRow rfl rfl rfl (by decide +kernel) ⟨Nat.le_of_ble_eq_true rfl, Nat.le_of_ble_eq_true rfl⟩) ⟨CP.blind, (va_recv hev.1 (xro hR0 hap hS) (ci := 8) (q0 := 0) rfl rfl), (xpre hev hz hA hP hD hS hR0 hap [2, 3, 0] rfl)⟩ rfl rfl hl.1 rfl (lv_room (Nat.le_of_ble_eq_true rfl)) dX7_lists_2 ⟨Nat.le_of_ble_eq_true rfl, Nat.le_of_ble_eq_true rfl⟩) hP hD hS hA (fun r1 w2 H locs h3 hP hD hS => ?_)
  obtain ⟨rfl, rfl, h3⟩ := h3
  try dsimp only at h3
  have hP : va_P E.1 vwCl [(w0, .inr (5, [.int nu, .int role, .int ver, .long unt, .ref oa, .int (nI oc), .ref qo, .ref tq, .ref dq, .ref ha, .int (nI pn), .int (nI sn), .int rk])), (ha, aI E 6 fh)] H := hP
  have hD : va_D A [(w0, .inr (5, [.int nu, .int role, .int ver, .long unt, .ref oa, .int (nI oc), .ref qo, .ref tq, .ref dq, .ref ha, .int (nI pn), .int (nI sn), .int rk])), (ha, aI E 6 fh)] := hD
  by_cases s4 : sn = 0
  · rw [if_pos s4]
    refine lv_astore_n (lv' := [(3, .ref w0), (0, .ref x), (1, .int y), (2, .int u)]) hx hb dX7_lists_5 rfl hl (by decide) rfl (fun ls hl => ?_)
    refine lv_aload_n hx hb dX7_lists_6 rfl (lv_at hl 0 rfl) ?_
    refine lv_ifnull hx hb dX7_lists_7 ?_
    refine lv_aload_n hx hb dX7_lists_10 rfl (lv_at hl 0 rfl) ?_
    have hP := hP.sub (ws' := [] ++ [(w0, .inr (5, [.int nu, .int role, .int ver, .long unt, .ref oa, .int (nI oc), .ref qo, .ref tq, .ref dq, .ref ha, .int (nI pn), .int (nI sn), .int rk])), (ha, aI E 6 fh)]) [0, 1] rfl
    have hD := hD.sub (ws' := [] ++ [(w0, .inr (5, [.int nu, .int role, .int ver, .long unt, .ref oa, .int (nI oc), .ref qo, .ref tq, .ref dq, .ref ha, .int (nI pn), .int (nI sn), .int rk])), (ha, aI E 6 fh)]) [0, 1] (by decide) rfl
    refine xci (va_runV (As := []) (rest := []) ⟨hx, hb, hml, hown, hts⟩ (kX4_tellsOfPaths l E w0 nu role ver unt oa oc qo tq dq ha pn (nI sn) rk  H.size) (cwV 0 hts gX7_lists_X4_tellsOfPaths rfl rfl rfl (by decide +kernel) ⟨Nat.le_of_ble_eq_true rfl, Nat.le_of_ble_eq_true rfl⟩) ⟨CP.blind, (va_recv hev.1 hP (ci := 5) (q0 := 0) rfl rfl), (xpre hev hz hA hP hD hS hR0 hap [0] rfl)⟩ rfl rfl hl.1 rfl (lv_room (Nat.le_of_ble_eq_true rfl)) dX7_lists_11 ⟨Nat.le_of_ble_eq_true rfl, Nat.le_of_ble_eq_true rfl⟩) hP hD hS hA (fun r5 w6 H locs h7 hP hD hS => ?_)
    obtain ⟨rfl, rfl, h7⟩ := h7
    try dsimp only at h7
    have hP : va_P E.1 vwCl [(w0, .inr (5, [.int nu, .int role, .int ver, .long unt, .ref oa, .int (nI oc), .ref qo, .ref tq, .ref dq, .ref ha, .int (nI pn), .int (nI sn), .int rk])), (ha, aI E 6 fh)] H := hP
    have hD : va_D A [(w0, .inr (5, [.int nu, .int role, .int ver, .long unt, .ref oa, .int (nI oc), .ref qo, .ref tq, .ref dq, .ref ha, .int (nI pn), .int (nI sn), .int rk])), (ha, aI E 6 fh)] := hD
    refine lv_if_eq (tgt := 24) hx hb dX7_lists_14 (by decide) (fun c8 => ?_) (fun c8 => ?_)
    · skip
      have kc8 := b1_0.mp c8
      refine lv_iconst (v := (-1)) hx hb dX7_lists_24 (by decide) ?_
      refine xri hx hb hr hlocks hP hD hS ⟨pn, fh, rfl, ?_⟩ dX7_lists_25
      exact Or.inr ⟨fun q => kc8 q.2.1, rfl, rfl, rfl⟩
    · skip
      have kc8 := b1_n.mp c8
      refine lv_iload_n hx hb dX7_lists_17 rfl (lv_at hl 3 rfl) ?_
      have hP := hP.sub (ws' := [] ++ [(w0, .inr (5, [.int nu, .int role, .int ver, .long unt, .ref oa, .int (nI oc), .ref qo, .ref tq, .ref dq, .ref ha, .int (nI pn), .int (nI sn), .int rk])), (ha, aI E 6 fh)]) [0, 1] rfl
      have hD := hD.sub (ws' := [] ++ [(w0, .inr (5, [.int nu, .int role, .int ver, .long unt, .ref oa, .int (nI oc), .ref qo, .ref tq, .ref dq, .ref ha, .int (nI pn), .int (nI sn), .int rk])), (ha, aI E 6 fh)]) [0, 1] (by decide) rfl
      refine xci (va_runS (As := [.int u]) (rest := []) ⟨hx, hb, hml, hown, hts⟩ (kX7_partsOfPath l E u  H.size) (va_cwS 1 hts gX7_lists_X7_partsOfPath rfl rfl rfl (by decide +kernel) ⟨Nat.le_of_ble_eq_true rfl, Nat.le_of_ble_eq_true rfl⟩) ⟨CP.blind, (xpre hev hz hA hP hD hS hR0 hap [] rfl)⟩ rfl rfl hl.1 rfl (lv_room (Nat.le_of_ble_eq_true rfl)) dX7_lists_18 ⟨Nat.le_of_ble_eq_true rfl, Nat.le_of_ble_eq_true rfl⟩) hP hD hS hA (fun r9 w10 H locs h11 hP hD hS => ?_)
      obtain ⟨rfl, rfl, h11⟩ := h11
      try dsimp only at h11
      have hP : va_P E.1 vwCl [(w0, .inr (5, [.int nu, .int role, .int ver, .long unt, .ref oa, .int (nI oc), .ref qo, .ref tq, .ref dq, .ref ha, .int (nI pn), .int (nI sn), .int rk])), (ha, aI E 6 fh)] H := hP
      have hD : va_D A [(w0, .inr (5, [.int nu, .int role, .int ver, .long unt, .ref oa, .int (nI oc), .ref qo, .ref tq, .ref dq, .ref ha, .int (nI pn), .int (nI sn), .int rk])), (ha, aI E 6 fh)] := hD
      refine lv_if_ne (tgt := 26) hx hb dX7_lists_21 (by decide) (fun c12 => ?_) (fun c12 => ?_)
      · skip
        have kc12 : ¬ (cnt u 14) = 0 := fun h9 => c12 ((nI_eq (a := (cnt u 14)) (b := 0) (by omega) (by omega)).mpr h9)
        refine lv_aload_n hx hb dX7_lists_26 rfl (lv_at hl 0 rfl) ?_
        refine lv_iload_n hx hb dX7_lists_27 rfl (lv_at hl 3 rfl) ?_
        have hP := hP.sub (ws' := [(w0, .inr (5, [.int nu, .int role, .int ver, .long unt, .ref oa, .int (nI oc), .ref qo, .ref tq, .ref dq, .ref ha, .int (nI pn), .int (nI sn), .int rk])), (ha, aI E 6 fh)] ++ []) [0, 1] rfl
        have hD := hD.sub (ws' := [(w0, .inr (5, [.int nu, .int role, .int ver, .long unt, .ref oa, .int (nI oc), .ref qo, .ref tq, .ref dq, .ref ha, .int (nI pn), .int (nI sn), .int rk])), (ha, aI E 6 fh)] ++ []) [0, 1] (by decide) rfl
        refine xci (va_runV (As := [.int u]) (rest := []) ⟨hx, hb, hml, hown, hts⟩ (kX4_addPath l E w0 nu role ver unt oa oc qo tq dq ha pn (nI sn) rk fh u (by first | assumption | omega) H.size) (cwV 1 hts gX7_lists_X4_addPath rfl rfl rfl (by decide +kernel) ⟨Nat.le_of_ble_eq_true rfl, Nat.le_of_ble_eq_true rfl⟩) ⟨CP.blind, (va_recv hev.1 hP.left (ci := 5) (q0 := 0) rfl rfl), (xpre hev hz hA hP hD hS hR0 hap [] rfl)⟩ rfl rfl hl.1 rfl (lv_room (Nat.le_of_ble_eq_true rfl)) dX7_lists_28 ⟨Nat.le_of_ble_eq_true rfl, Nat.le_of_ble_eq_true rfl⟩) hP hD hS hA (fun r13 w14 H locs h15 hP hD hS => ?_)
        obtain ⟨pn216, gh17, rfl, h15⟩ := h15
        try dsimp only at h15
        have hP : va_P E.1 vwCl [(w0, .inr (5, [.int nu, .int role, .int ver, .long unt, .ref oa, .int (nI oc), .ref qo, .ref tq, .ref dq, .ref ha, .int (nI pn216), .int (nI sn), .int rk])), (ha, aI E 6 gh17)] H := hP
        have hD : va_D A [(w0, .inr (5, [.int nu, .int role, .int ver, .long unt, .ref oa, .int (nI oc), .ref qo, .ref tq, .ref dq, .ref ha, .int (nI pn216), .int (nI sn), .int rk])), (ha, aI E 6 gh17)] := hD
        refine xri hx hb hr hlocks hP hD hS ⟨pn216, gh17, rfl, ?_⟩ dX7_lists_31
        exact h15.elim (fun ⟨q1, q2, q3, q4⟩ => Or.inr ⟨fun q => absurd q.2.2.2 (by omega), q2, q3, q4⟩) (fun ⟨q1, q2, q3, q4⟩ => Or.inl ⟨⟨s4, kc8, kc12, q1⟩, q2, q3, q4⟩)
      · skip
        have kc12 : (cnt u 14) = 0 := (nI_eq (a := (cnt u 14)) (b := 0) (by omega) (by omega)).mp c12
        refine lv_iconst (v := (-1)) hx hb dX7_lists_24 (by decide) ?_
        refine xri hx hb hr hlocks hP hD hS ⟨pn, fh, rfl, ?_⟩ dX7_lists_25
        exact Or.inr ⟨fun q => q.2.2.1 kc12, rfl, rfl, rfl⟩
  · rw [if_neg s4]
    refine lv_astore_nN (lv' := [(3, .null), (0, .ref x), (1, .int y), (2, .int u)]) hx hb dX7_lists_5 rfl hl (by decide) rfl (fun ls hl => ?_)
    refine lv_aload_nN hx hb dX7_lists_6 rfl (lv_at hl 0 rfl) ?_
    refine lv_ifnullN (tgt := 24) hx hb dX7_lists_7 (by decide) ?_
    refine lv_iconst (v := (-1)) hx hb dX7_lists_24 (by decide) ?_
    refine xri hx hb hr hlocks hP hD hS ⟨pn, fh, rfl, ?_⟩ dX7_lists_25
    exact Or.inr ⟨fun q => s4 q.1, rfl, rfl, rfl⟩

abbrev pX7_rightSignature (E : xE) (x : Nat) (rg : Nat) (dr : Nat) (rs : Nat) (nr : Int32) (c0 : Nat) (h : Nat) (td : Nat) (ks : Nat) (ku : Nat) (kn : Nat) (fs : Nat → Int64) (ms : Nat) (sc : Nat) (sa : Nat) (ln : Nat) (f : Nat → Int32) (fc : Nat → Int32) (fa : Nat → Int32) (w0 : Nat) (nu : Int32) (role : Int32) (ver : Int32) (unt : Int64) (oa : Nat) (oc : Nat) (qo : Nat) (tq : Nat) (dq : Nat) (ha : Nat) (pn : Nat) (sg : Int32) (rk : Int32) (fo : Nat → Int32) (na : Nat) (ma : Nat) (fn : Nat → Int32) (fm : Nat → Int32) (ra : Nat) (va : Nat) (tn : Nat) (fr : Nat → Int32) (fv : Nat → Int32) (pa : Nat) (ta : Nat) (ea : Nat) (dn : Nat) (fp : Nat → Int32) (ft : Nat → Int32) (fe : Nat → Int32) (fh : Nat → Int32) (k : Nat) (r : Int64) (w : va_W) : Prop := ∃ (l2 : Nat) (g : Nat → Int32) (gc : Nat → Int32) (ga : Nat → Int32), w = [(h, .inr (6, [.ref ms, .ref sc, .ref sa, .int (nI l2)])), (ms, aB E 128 g), (sc, aI E 64 gc), (sa, aI E 8 ga)] ∧ r = eight (shaL (bL (fs k) ++ rowB role ver unt oc fo fn fm tn fr fv dn fp ft fe pn fh)) ∧ (True)
set_option maxHeartbeats 4000000 in
set_option maxRecDepth 100000 in
theorem kX7_rightSignature (l : Launch) (E : xE) (x : Nat) (rg : Nat) (dr : Nat) (rs : Nat) (nr : Int32) (c0 : Nat) (h : Nat) (td : Nat) (ks : Nat) (ku : Nat) (kn : Nat) (fs : Nat → Int64) (ms : Nat) (sc : Nat) (sa : Nat) (ln : Nat) (f : Nat → Int32) (fc : Nat → Int32) (fa : Nat → Int32) (w0 : Nat) (nu : Int32) (role : Int32) (ver : Int32) (unt : Int64) (oa : Nat) (oc : Nat) (qo : Nat) (tq : Nat) (dq : Nat) (ha : Nat) (pn : Nat) (sg : Int32) (rk : Int32) (fo : Nat → Int32) (na : Nat) (ma : Nat) (fn : Nat → Int32) (fm : Nat → Int32) (ra : Nat) (va : Nat) (tn : Nat) (fr : Nat → Int32) (fv : Nat → Int32) (pa : Nat) (ta : Nat) (ea : Nat) (dn : Nat) (fp : Nat → Int32) (ft : Nat → Int32) (fe : Nat → Int32) (fh : Nat → Int32) (k : Nat) (hkn : kn ≤ 20) (hk : k < kn) (hoc : oc ≤ 16) (htn : tn ≤ 7) (hdn : dn ≤ 6) (hpn : pn ≤ 6) : KT l yX7_rightSignature wsX7_rightSignature 4 87 0 0 E [(h, .inr (6, [.ref ms, .ref sc, .ref sa, .int (nI ln)])), (ms, aB E 128 f), (sc, aI E 64 fc), (sa, aI E 8 fa)] [(x, .inr (8, [.ref rg, .ref dr, .ref rs, .int nr, .ref c0, .ref h, .ref td])), (rg, .inr (3, [.ref ks, .ref ku, .int (nI kn)])), (ks, aJ E 20 fs), (w0, .inr (5, [.int nu, .int role, .int ver, .long unt, .ref oa, .int (nI oc), .ref qo, .ref tq, .ref dq, .ref ha, .int (nI pn), .int sg, .int rk])), (oa, aB E 16 fo), (qo, .inr (4, [.ref na, .ref ma])), (na, aI E 10 fn), (ma, aI E 10 fm), (tq, .inr (7, [.ref ra, .ref va, .int (nI tn)])), (ra, aI E 7 fr), (va, aI E 7 fv), (dq, .inr (2, [.ref pa, .ref ta, .ref ea, .int (nI dn)])), (pa, aI E 6 fp), (ta, aI E 6 ft), (ea, aZ E 6 fe), (ha, aI E 6 fh)] [.ref x, .ref w0, .int (nI k)] (QL E (pX7_rightSignature E x rg dr rs nr c0 h td ks ku kn fs ms sc sa ln f fc fa w0 nu role ver unt oa oc qo tq dq ha pn sg rk fo na ma fn fm ra va tn fr fv pa ta ea dn fp ft fe fh k)) := by
  refine KT.start (cc := cX7_rightSignature) (maxL := 3) (ret := (some .long)) (by decide) rfl (Nat.le_of_ble_eq_true rfl) ?_
  intro p e s m below meth c A H hx hb hr hlocks hml hts hown hin hP hR0 hD hap hev hz hA hS ls hl
  have hl : lv_has ls 3 [(0, .ref x), (1, .ref w0), (2, .int (nI k))] := hl
  have hiX7 : ∀ w ∈ wsX70, w ∈ wsX7_rightSignature := by decide +kernel
  have hf12 := hts (.fieldLink RX7 12 "SignQuorum" "ring" "LSignQuorum$KeyRing;") (by decide +kernel)
  have hf43 := hts (.fieldLink RX7 43 "SignQuorum" "sha" "LSignQuorum$Sha256;") (by decide +kernel)
  have hrb := rowB_len_le role ver unt fo fn fm fr fv fp ft fe fh hoc htn hdn hpn
  refine lv_aload_n hx hb dX7_rightSignature_0 rfl (lv_at hl 0 rfl) ?_
  refine va_get (D := E.1) (ci := 8) (v := .ref h) (C := RX7) (T := TX7) (N := 7) hx hb hts hiX7 hown hev.1 (xro hR0 hap hS) 0 rfl rfl 5 (by decide) hf43 (fun _ h9 => h9) rfl dX7_rightSignature_1 ?_
  have hP := hP.sub (ws' := [(h, .inr (6, [.ref ms, .ref sc, .ref sa, .int (nI ln)]))] ++ [(ms, aB E 128 f), (sc, aI E 64 fc), (sa, aI E 8 fa)]) [0, 1, 2, 3] rfl
  have hD := hD.sub (ws' := [(h, .inr (6, [.ref ms, .ref sc, .ref sa, .int (nI ln)]))] ++ [(ms, aB E 128 f), (sc, aI E 64 fc), (sa, aI E 8 fa)]) [0, 1, 2, 3] (by decide) rfl
  refine xcv (va_runV (As := []) (rest := []) ⟨hx, hb, hml, hown, hts⟩ (kX5_begin l E h ms sc sa ln  H.size) (cwV 0 hts gX7_rightSignature_X5_begin rfl rfl rfl (by decide +kernel) ⟨Nat.le_of_ble_eq_true rfl, Nat.le_of_ble_eq_true rfl⟩) ⟨CP.blind, (va_recv hev.1 hP.left (ci := 6) (q0 := 0) rfl rfl), (xpre hev hz hA hP hD hS hR0 hap [] rfl)⟩ rfl rfl hl.1 rfl (lv_room (Nat.le_of_ble_eq_true rfl)) dX7_rightSignature_4 ⟨Nat.le_of_ble_eq_true rfl, Nat.le_of_ble_eq_true rfl⟩) hP hD hS hA (fun w2 H locs h3 hP hD hS => ?_)
  obtain ⟨rfl, h3⟩ := h3
  try dsimp only at h3
  have hP : va_P E.1 vwCl [(h, .inr (6, [.ref ms, .ref sc, .ref sa, .int 0])), (ms, aB E 128 f), (sc, aI E 64 fc), (sa, aI E 8 fa)] H := hP
  have hD : va_D A [(h, .inr (6, [.ref ms, .ref sc, .ref sa, .int 0])), (ms, aB E 128 f), (sc, aI E 64 fc), (sa, aI E 8 fa)] := hD
  refine lv_aload_n hx hb dX7_rightSignature_7 rfl (lv_at hl 0 rfl) ?_
  refine va_get (D := E.1) (ci := 8) (v := .ref h) (C := RX7) (T := TX7) (N := 7) hx hb hts hiX7 hown hev.1 (xro hR0 hap hS) 0 rfl rfl 5 (by decide) hf43 (fun _ h9 => h9) rfl dX7_rightSignature_8 ?_
  refine lv_aload_n hx hb dX7_rightSignature_11 rfl (lv_at hl 0 rfl) ?_
  refine va_get (D := E.1) (ci := 8) (v := .ref rg) (C := RX7) (T := TX7) (N := 7) hx hb hts hiX7 hown hev.1 (xro hR0 hap hS) 0 rfl rfl 0 (by decide) hf12 (fun _ h9 => h9) rfl dX7_rightSignature_12 ?_
  refine lv_iload_n hx hb dX7_rightSignature_15 rfl (lv_at hl 2 rfl) ?_
  have hP := hP.sub (ws' := [] ++ [(h, .inr (6, [.ref ms, .ref sc, .ref sa, .int 0])), (ms, aB E 128 f), (sc, aI E 64 fc), (sa, aI E 8 fa)]) [0, 1, 2, 3] rfl
  have hD := hD.sub (ws' := [] ++ [(h, .inr (6, [.ref ms, .ref sc, .ref sa, .int 0])), (ms, aB E 128 f), (sc, aI E 64 fc), (sa, aI E 8 fa)]) [0, 1, 2, 3] (by decide) rfl
  refine xcl (va_runV (As := [.int (nI k)]) (rest := [.ref h]) ⟨hx, hb, hml, hown, hts⟩ (kX2_secretOf l E rg ks ku kn fs k (by first | assumption | omega) (by first | assumption | omega) H.size) (cwV 1 hts gX7_rightSignature_X2_secretOf rfl rfl rfl (by decide +kernel) ⟨Nat.le_of_ble_eq_true rfl, Nat.le_of_ble_eq_true rfl⟩) ⟨CP.blind, (va_recv hev.1 (xro hR0 hap hS) (ci := 3) (q0 := 1) rfl rfl), (xpre hev hz hA hP hD hS hR0 hap [5, 6] rfl)⟩ rfl rfl hl.1 rfl (lv_room (Nat.le_of_ble_eq_true rfl)) dX7_rightSignature_16 ⟨Nat.le_of_ble_eq_true rfl, Nat.le_of_ble_eq_true rfl⟩) hP hD hS hA (fun r4 w5 H locs h6 hP hD hS => ?_)
  obtain ⟨rfl, rfl, h6⟩ := h6
  try dsimp only at h6
  have hP : va_P E.1 vwCl [(h, .inr (6, [.ref ms, .ref sc, .ref sa, .int 0])), (ms, aB E 128 f), (sc, aI E 64 fc), (sa, aI E 8 fa)] H := hP
  have hD : va_D A [(h, .inr (6, [.ref ms, .ref sc, .ref sa, .int 0])), (ms, aB E 128 f), (sc, aI E 64 fc), (sa, aI E 8 fa)] := hD
  have hP := hP.sub (ws' := [(h, .inr (6, [.ref ms, .ref sc, .ref sa, .int 0])), (ms, aB E 128 f)] ++ [(sc, aI E 64 fc), (sa, aI E 8 fa)]) [0, 1, 2, 3] rfl
  have hD := hD.sub (ws' := [(h, .inr (6, [.ref ms, .ref sc, .ref sa, .int 0])), (ms, aB E 128 f)] ++ [(sc, aI E 64 fc), (sa, aI E 8 fa)]) [0, 1, 2, 3] (by decide) rfl
  refine xcv (va_runV (As := [.long (fs k)]) (rest := []) ⟨hx, hb, hml, hown, hts⟩ (kX5_putLong l E h ms sc sa 0 f (fs k) (by first | assumption | omega) H.size) (cwV 1 hts gX7_rightSignature_X5_putLong rfl rfl rfl (by decide +kernel) ⟨Nat.le_of_ble_eq_true rfl, Nat.le_of_ble_eq_true rfl⟩) ⟨CP.blind, (va_recv hev.1 hP.left (ci := 6) (q0 := 0) rfl rfl), (xpre hev hz hA hP hD hS hR0 hap [] rfl)⟩ rfl rfl hl.1 rfl (lv_room (Nat.le_of_ble_eq_true rfl)) dX7_rightSignature_19 ⟨Nat.le_of_ble_eq_true rfl, Nat.le_of_ble_eq_true rfl⟩) hP hD hS hA (fun w8 H locs h9 hP hD hS => ?_)
  obtain ⟨g10, rfl, h9⟩ := h9
  try dsimp only at h9
  try rw [show (0 + 8 : Nat) = 8 by omega] at hP hD
  have hP : va_P E.1 vwCl [(h, .inr (6, [.ref ms, .ref sc, .ref sa, .int (nI 8)])), (ms, aB E 128 g10), (sc, aI E 64 fc), (sa, aI E 8 fa)] H := hP
  have hD : va_D A [(h, .inr (6, [.ref ms, .ref sc, .ref sa, .int (nI 8)])), (ms, aB E 128 g10), (sc, aI E 64 fc), (sa, aI E 8 fa)] := hD
  refine lv_aload_n hx hb dX7_rightSignature_22 rfl (lv_at hl 1 rfl) ?_
  refine lv_aload_n hx hb dX7_rightSignature_23 rfl (lv_at hl 0 rfl) ?_
  refine va_get (D := E.1) (ci := 8) (v := .ref h) (C := RX7) (T := TX7) (N := 7) hx hb hts hiX7 hown hev.1 (xro hR0 hap hS) 0 rfl rfl 5 (by decide) hf43 (fun _ h9 => h9) rfl dX7_rightSignature_24 ?_
  have hP := hP.sub (ws' := [(h, .inr (6, [.ref ms, .ref sc, .ref sa, .int (nI 8)])), (ms, aB E 128 g10)] ++ [(sc, aI E 64 fc), (sa, aI E 8 fa)]) [0, 1, 2, 3] rfl
  have hD := hD.sub (ws' := [(h, .inr (6, [.ref ms, .ref sc, .ref sa, .int (nI 8)])), (ms, aB E 128 g10)] ++ [(sc, aI E 64 fc), (sa, aI E 8 fa)]) [0, 1, 2, 3] (by decide) rfl
  refine xcv (va_runV (As := [.ref h]) (rest := []) ⟨hx, hb, hml, hown, hts⟩ (kX4_writeTo l E h ms sc sa 8 g10 w0 nu role ver unt oa oc qo tq dq ha pn sg rk fo na ma fn fm ra va tn fr fv pa ta ea dn fp ft fe fh (by first | assumption | omega) (by first | assumption | omega) (by first | assumption | omega) (by first | assumption | omega) (by first | assumption | omega) H.size) (cwV 1 hts gX7_rightSignature_X4_writeTo rfl rfl rfl (by decide +kernel) ⟨Nat.le_of_ble_eq_true rfl, Nat.le_of_ble_eq_true rfl⟩) ⟨CP.blind, (va_recv hev.1 (xro hR0 hap hS) (ci := 5) (q0 := 3) rfl rfl), (xpre hev hz hA hP hD hS hR0 hap [5, 6, 7, 8, 9, 10, 11, 12, 13, 14, 15, 16, 17] rfl)⟩ rfl rfl hl.1 rfl (lv_room (Nat.le_of_ble_eq_true rfl)) dX7_rightSignature_27 ⟨Nat.le_of_ble_eq_true rfl, Nat.le_of_ble_eq_true rfl⟩) hP hD hS hA (fun w12 H locs h13 hP hD hS => ?_)
  obtain ⟨g14, rfl, h13⟩ := h13
  try dsimp only at h13
  have hP : va_P E.1 vwCl [(h, .inr (6, [.ref ms, .ref sc, .ref sa, .int (nI (8 + (rowB role ver unt oc fo fn fm tn fr fv dn fp ft fe pn fh).length))])), (ms, aB E 128 g14), (sc, aI E 64 fc), (sa, aI E 8 fa)] H := hP
  have hD : va_D A [(h, .inr (6, [.ref ms, .ref sc, .ref sa, .int (nI (8 + (rowB role ver unt oc fo fn fm tn fr fv dn fp ft fe pn fh).length))])), (ms, aB E 128 g14), (sc, aI E 64 fc), (sa, aI E 8 fa)] := hD
  refine lv_aload_n hx hb dX7_rightSignature_30 rfl (lv_at hl 0 rfl) ?_
  refine va_get (D := E.1) (ci := 8) (v := .ref h) (C := RX7) (T := TX7) (N := 7) hx hb hts hiX7 hown hev.1 (xro hR0 hap hS) 0 rfl rfl 5 (by decide) hf43 (fun _ h9 => h9) rfl dX7_rightSignature_31 ?_
  have hP := hP.sub (ws' := [(ms, aB E 128 g14), (sc, aI E 64 fc), (sa, aI E 8 fa)] ++ [(h, .inr (6, [.ref ms, .ref sc, .ref sa, .int (nI (8 + (rowB role ver unt oc fo fn fm tn fr fv dn fp ft fe pn fh).length))]))]) [1, 2, 3, 0] rfl
  have hD := hD.sub (ws' := [(ms, aB E 128 g14), (sc, aI E 64 fc), (sa, aI E 8 fa)] ++ [(h, .inr (6, [.ref ms, .ref sc, .ref sa, .int (nI (8 + (rowB role ver unt oc fo fn fm tn fr fv dn fp ft fe pn fh).length))]))]) [1, 2, 3, 0] (by decide) rfl
  refine xcv (va_runV (As := []) (rest := []) ⟨hx, hb, hml, hown, hts⟩ (kX5_finish l E h ms sc sa (8 + (rowB role ver unt oc fo fn fm tn fr fv dn fp ft fe pn fh).length) g14 fc fa (by first | assumption | omega) H.size) (cwV 0 hts gX7_rightSignature_X5_finish rfl rfl rfl (by decide +kernel) ⟨Nat.le_of_ble_eq_true rfl, Nat.le_of_ble_eq_true rfl⟩) ⟨CP.blind, (va_recv hev.1 hP (ci := 6) (q0 := 3) rfl rfl), (xpre hev hz hA hP hD hS hR0 hap [0] rfl)⟩ rfl rfl hl.1 rfl (lv_room (Nat.le_of_ble_eq_true rfl)) dX7_rightSignature_34 ⟨Nat.le_of_ble_eq_true rfl, Nat.le_of_ble_eq_true rfl⟩) hP hD hS hA (fun w16 H locs h17 hP hD hS => ?_)
  obtain ⟨g18, gc19, ga20, rfl, h17⟩ := h17
  try dsimp only at h17
  have hP : va_P E.1 vwCl [(ms, aB E 128 g18), (sc, aI E 64 gc19), (sa, aI E 8 ga20), (h, .inr (6, [.ref ms, .ref sc, .ref sa, .int (nI (8 + (rowB role ver unt oc fo fn fm tn fr fv dn fp ft fe pn fh).length))]))] H := hP
  have hD : va_D A [(ms, aB E 128 g18), (sc, aI E 64 gc19), (sa, aI E 8 ga20), (h, .inr (6, [.ref ms, .ref sc, .ref sa, .int (nI (8 + (rowB role ver unt oc fo fn fm tn fr fv dn fp ft fe pn fh).length))]))] := hD
  refine lv_aload_n hx hb dX7_rightSignature_37 rfl (lv_at hl 0 rfl) ?_
  refine va_get (D := E.1) (ci := 8) (v := .ref h) (C := RX7) (T := TX7) (N := 7) hx hb hts hiX7 hown hev.1 (xro hR0 hap hS) 0 rfl rfl 5 (by decide) hf43 (fun _ h9 => h9) rfl dX7_rightSignature_38 ?_
  have hP := hP.sub (ws' := [] ++ [(ms, aB E 128 g18), (sc, aI E 64 gc19), (sa, aI E 8 ga20), (h, .inr (6, [.ref ms, .ref sc, .ref sa, .int (nI (8 + (rowB role ver unt oc fo fn fm tn fr fv dn fp ft fe pn fh).length))]))]) [0, 1, 2, 3] rfl
  have hD := hD.sub (ws' := [] ++ [(ms, aB E 128 g18), (sc, aI E 64 gc19), (sa, aI E 8 ga20), (h, .inr (6, [.ref ms, .ref sc, .ref sa, .int (nI (8 + (rowB role ver unt oc fo fn fm tn fr fv dn fp ft fe pn fh).length))]))]) [0, 1, 2, 3] (by decide) rfl
  refine xcl (va_runV (As := []) (rest := []) ⟨hx, hb, hml, hown, hts⟩ (kX5_firstEightBytes l E h ms sc sa (8 + (rowB role ver unt oc fo fn fm tn fr fv dn fp ft fe pn fh).length) ga20  H.size) (cwV 0 hts gX7_rightSignature_X5_firstEightBytes rfl rfl rfl (by decide +kernel) ⟨Nat.le_of_ble_eq_true rfl, Nat.le_of_ble_eq_true rfl⟩) ⟨CP.blind, (va_recv hev.1 hP (ci := 6) (q0 := 3) rfl rfl), (xpre hev hz hA hP hD hS hR0 hap [3, 2] rfl)⟩ rfl rfl hl.1 rfl (lv_room (Nat.le_of_ble_eq_true rfl)) dX7_rightSignature_41 ⟨Nat.le_of_ble_eq_true rfl, Nat.le_of_ble_eq_true rfl⟩) hP hD hS hA (fun r21 w22 H locs h23 hP hD hS => ?_)
  obtain ⟨rfl, rfl, h23⟩ := h23
  try dsimp only at h23
  have hP : va_P E.1 vwCl [(ms, aB E 128 g18), (sc, aI E 64 gc19), (sa, aI E 8 ga20), (h, .inr (6, [.ref ms, .ref sc, .ref sa, .int (nI (8 + (rowB role ver unt oc fo fn fm tn fr fv dn fp ft fe pn fh).length))]))] H := hP
  have hD : va_D A [(ms, aB E 128 g18), (sc, aI E 64 gc19), (sa, aI E 8 ga20), (h, .inr (6, [.ref ms, .ref sc, .ref sa, .int (nI (8 + (rowB role ver unt oc fo fn fm tn fr fv dn fp ft fe pn fh).length))]))] := hD
  refine xrl hx hb hr hlocks (hP.sub (ws' := [(h, .inr (6, [.ref ms, .ref sc, .ref sa, .int (nI (8 + (rowB role ver unt oc fo fn fm tn fr fv dn fp ft fe pn fh).length))])), (ms, aB E 128 g18), (sc, aI E 64 gc19), (sa, aI E 8 ga20)]) [3, 0, 1, 2] rfl) (hD.sub (ws' := [(h, .inr (6, [.ref ms, .ref sc, .ref sa, .int (nI (8 + (rowB role ver unt oc fo fn fm tn fr fv dn fp ft fe pn fh).length))])), (ms, aB E 128 g18), (sc, aI E 64 gc19), (sa, aI E 8 ga20)]) [3, 0, 1, 2] (by decide) rfl) hS ⟨(8 + (rowB role ver unt oc fo fn fm tn fr fv dn fp ft fe pn fh).length), g18, gc19, ga20, rfl, ?_, ?_⟩ dX7_rightSignature_44
  · exact eight_congr (shaL_of h17 (ap_step (h9 : _ = ap f 0 (bL (fs k))) h13 rfl) (by rw [List.length_append, bL_len]))
  · trivial
