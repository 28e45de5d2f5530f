abbrev pX7_signN (E : xE) (x : Nat) (rg : Nat) (dr : Nat) (rs : Nat) (nr : Int32) (c0 : Nat) (h : Nat) (td : Nat) (rf : Nat → Option Nat) (y : Int32) (z : Int32) (r : Int64) (w : va_W) : Prop := w = [] ∧ r = 0 ∧ (True)
set_option maxHeartbeats 4000000 in
set_option maxRecDepth 100000 in
theorem kX7_signN (l : Launch) (E : xE) (x : Nat) (rg : Nat) (dr : Nat) (rs : Nat) (nr : Int32) (c0 : Nat) (h : Nat) (td : Nat) (rf : Nat → Option Nat) (y : Int32) (z : Int32) (hrx : rAt rf y = none) : KT l yX7_sign wsX7_sign 1 21 0 0 E [] [(x, .inr (8, [.ref rg, .ref dr, .ref rs, .int nr, .ref c0, .ref h, .ref td])), (rs, aR E 24 rf)] [.ref x, .int y, .int z] (QL E (pX7_signN E x rg dr rs nr c0 h td rf y z)) := by
  refine KT.start (cc := cX7_sign) (maxL := 6) (ret := (some .long)) (by decide) rfl (Nat.le_of_ble_eq_true rfl) ?_
  intro p e s m below meth c A H hx hb hr hlocks hml hts hown hin hP hR0 hD hap hev hz hA hS ls hl
  have hl : lv_has ls 6 [(0, .ref x), (1, .int y), (2, .int z)] := hl
  refine lv_aload_n hx hb dX7_sign_0 rfl (lv_at hl 0 rfl) ?_
  refine lv_iload_n hx hb dX7_sign_1 rfl (lv_at hl 1 rfl) ?_
  have hP := hP.sub (ws' := [] ++ []) [] rfl
  have hD := hD.sub (ws' := [] ++ []) [] (by decide) rfl
  refine xcr (va_runV (As := [.int y]) (rest := []) ⟨hx, hb, hml, hown, hts⟩ (kX7_rowAt l E x rg dr rs nr c0 h td rf y  H.size) (cwV 1 hts gX7_sign_X7_rowAt rfl rfl rfl (by decide +kernel) ⟨Nat.le_of_ble_eq_true rfl, Nat.le_of_ble_eq_true rfl⟩) ⟨CP.blind, (va_recv hev.1 (xro hR0 hap hS) (ci := 8) (q0 := 0) rfl rfl), (xpre hev hz hA hP hD hS hR0 hap [0, 1] rfl)⟩ rfl rfl hl.1 rfl (lv_room (Nat.le_of_ble_eq_true rfl)) dX7_sign_2 ⟨Nat.le_of_ble_eq_true rfl, Nat.le_of_ble_eq_true rfl⟩) hP hD hS hA (fun r1 w2 H locs h3 hP hD hS => ?_)
  obtain ⟨rfl, rfl, h3⟩ := h3
  try dsimp only at h3
  have hP : va_P E.1 vwCl [] H := hP
  have hD : va_D A [] := hD
  rw [hrx]
  refine lv_astore_nN (lv' := [(3, .null), (0, .ref x), (1, .int y), (2, .int z)]) hx hb dX7_sign_5 rfl hl (by decide) rfl (fun ls hl => ?_)
  refine lv_aload_nN hx hb dX7_sign_6 rfl (lv_at hl 0 rfl) ?_
  refine lv_ifnullN (tgt := 28) hx hb dX7_sign_7 (by decide) ?_
  refine lv_lconst (v := 0) hx hb dX7_sign_28 (by decide) ?_
  refine xrl hx hb hr hlocks hP hD hS ⟨rfl, ?_, ?_⟩ dX7_sign_29
  · rfl
  · trivial

abbrev pX7_sign (E : xE) (x : Nat) (rg : Nat) (dr : Nat) (rs : Nat) (nr : Int32) (c0 : Nat) (h : Nat) (td : Nat) (rf : Nat → Option Nat) (ks : Nat) (ku : Nat) (kn : Nat) (fs : Nat → Int64) (ms : Nat) (sc : Nat) (sa : Nat) (ln : Nat) (f : Nat → Int32) (fc : Nat → Int32) (fa : Nat → Int32) (w0 : Nat) (nu : Int32) (role : Int32) (ver : Int32) (unt : Int64) (oa : Nat) (oc : Nat) (qo : Nat) (tq : Nat) (dq : Nat) (ha : Nat) (pn : Nat) (sn : Nat) (rk : Int32) (fo : Nat → Int32) (na : Nat) (ma : Nat) (fn : Nat → Int32) (fm : Nat → Int32) (ra : Nat) (va : Nat) (tn : Nat) (fr : Nat → Int32) (fv : Nat → Int32) (pa : Nat) (ta : Nat) (ea : Nat) (dn : Nat) (fp : Nat → Int32) (ft : Nat → Int32) (fe : Nat → Int32) (fh : Nat → Int32) (y : Int32) (z : Int32) (r : Int64) (w : va_W) : Prop := ∃ (sn2 : Nat) (rk2 : Int32) (l2 : Nat) (g : Nat → Int32) (gc : Nat → Int32) (ga : Nat → Int32), w = [(w0, .inr (5, [.int nu, .int role, .int ver, .long unt, .ref oa, .int (nI oc), .ref qo, .ref tq, .ref dq, .ref ha, .int (nI pn), .int (nI sn2), .int rk2])), (h, .inr (6, [.ref ms, .ref sc, .ref sa, .int (nI l2)])), (ms, aB E 128 g), (sc, aI E 64 gc), (sa, aI E 8 ga)] ∧ ((∃ k, k < kn ∧ z = nI k ∧ sn < 12 ∧ r = eight (shaL (bL (fs k) ++ rowB role ver unt oc fo fn fm tn fr fv dn fp ft fe pn fh)) ∧ sn2 = sn + 1 ∧ rk2 = rk ||| (1 <<< (nI k &&& 31))) ∨ (¬ (isN z kn ∧ sn < 12) ∧ r = 0 ∧ sn2 = sn ∧ rk2 = rk))
set_option maxHeartbeats 4000000 in
set_option maxRecDepth 100000 in
theorem kX7_sign (l : Launch) (E : xE) (x : Nat) (rg : Nat) (dr : Nat) (rs : Nat) (nr : Int32) (c0 : Nat) (h : Nat) (td : Nat) (rf : Nat → Option Nat) (ks : Nat) (ku : Nat) (kn : Nat) (fs : Nat → Int64) (ms : Nat) (sc : Nat) (sa : Nat) (ln : Nat) (f : Nat → Int32) (fc : Nat → Int32) (fa : Nat → Int32) (w0 : Nat) (nu : Int32) (role : Int32) (ver : Int32) (unt : Int64) (oa : Nat) (oc : Nat) (qo : Nat) (tq : Nat) (dq : Nat) (ha : Nat) (pn : Nat) (sn : Nat) (rk : Int32) (fo : Nat → Int32) (na : Nat) (ma : Nat) (fn : Nat → Int32) (fm : Nat → Int32) (ra : Nat) (va : Nat) (tn : Nat) (fr : Nat → Int32) (fv : Nat → Int32) (pa : Nat) (ta : Nat) (ea : Nat) (dn : Nat) (fp : Nat → Int32) (ft : Nat → Int32) (fe : Nat → Int32) (fh : Nat → Int32) (y : Int32) (z : Int32) (hrx : rAt rf y = some w0) (hsn : sn ≤ 12) (hkn : kn ≤ 20) (hoc : oc ≤ 16) (htn : tn ≤ 7) (hdn : dn ≤ 6) (hpn : pn ≤ 6) : KT l yX7_sign wsX7_sign 5 109 0 0 E [(w0, .inr (5, [.int nu, .int role, .int ver, .long unt, .ref oa, .int (nI oc), .ref qo, .ref tq, .ref dq, .ref ha, .int (nI pn), .int (nI sn), .int rk])), (h, .inr (6, [.ref ms, .ref sc, .ref sa, .int (nI ln)])), (ms, aB E 128 f), (sc, aI E 64 fc), (sa, aI E 8 fa)] [(x, .inr (8, [.ref rg, .ref dr, .ref rs, .int nr, .ref c0, .ref h, .ref td])), (rs, aR E 24 rf), (rg, .inr (3, [.ref ks, .ref ku, .int (nI kn)])), (ks, aJ E 20 fs), (oa, aB E 16 fo), (qo, .inr (4, [.ref na, .ref ma])), (na, aI E 10 fn), (ma, aI E 10 fm), (tq, .inr (7, [.ref ra, .ref va, .int (nI tn)])), (ra, aI E 7 fr), (va, aI E 7 fv), (dq, .inr (2, [.ref pa, .ref ta, .ref ea, .int (nI dn)])), (pa, aI E 6 fp), (ta, aI E 6 ft), (ea, aZ E 6 fe), (ha, aI E 6 fh)] [.ref x, .int y, .int z] (QL E (pX7_sign E x rg dr rs nr c0 h td rf ks ku kn fs ms sc sa ln f fc fa w0 nu role ver unt oa oc qo tq dq ha pn sn rk fo na ma fn fm ra va tn fr fv pa ta ea dn fp ft fe fh y z)) := by
  refine KT.start (cc := cX7_sign) (maxL := 6) (ret := (some .long)) (by decide) rfl (Nat.le_of_ble_eq_true rfl) ?_
  intro p e s m below meth c A H hx hb hr hlocks hml hts hown hin hP hR0 hD hap hev hz hA hS ls hl
  have hl : lv_has ls 6 [(0, .ref x), (1, .int y), (2, .int z)] := hl
  have hiX7 : ∀ w ∈ wsX70, w ∈ wsX7_sign := by decide +kernel
  have hf12 := hts (.fieldLink RX7 12 "SignQuorum" "ring" "LSignQuorum$KeyRing;") (by decide +kernel)
  refine lv_aload_n hx hb dX7_sign_0 rfl (lv_at hl 0 rfl) ?_
  refine lv_iload_n hx hb dX7_sign_1 rfl (lv_at hl 1 rfl) ?_
  have hP := hP.sub (ws' := [] ++ [(w0, .inr (5, [.int nu, .int role, .int ver, .long unt, .ref oa, .int (nI oc), .ref qo, .ref tq, .ref dq, .ref ha, .int (nI pn), .int (nI sn), .int rk])), (h, .inr (6, [.ref ms, .ref sc, .ref sa, .int (nI ln)])), (ms, aB E 128 f), (sc, aI E 64 fc), (sa, aI E 8 fa)]) [0, 1, 2, 3, 4] rfl
  have hD := hD.sub (ws' := [] ++ [(w0, .inr (5, [.int nu, .int role, .int ver, .long unt, .ref oa, .int (nI oc), .ref qo, .ref tq, .ref dq, .ref ha, .int (nI pn), .int (nI sn), .int rk])), (h, .inr (6, [.ref ms, .ref sc, .ref sa, .int (nI ln)])), (ms, aB E 128 f), (sc, aI E 64 fc), (sa, aI E 8 fa)]) [0, 1, 2, 3, 4] (by decide) rfl
  refine xcr (va_runV (As := [.int y]) (rest := []) ⟨hx, hb, hml, hown, hts⟩ (kX7_rowAt l E x rg dr rs nr c0 h td rf y  H.size) (cwV 1 hts gX7_sign_X7_rowAt rfl rfl rfl (by decide +kernel) ⟨Nat.le_of_ble_eq_true rfl, Nat.le_of_ble_eq_true rfl⟩) ⟨CP.blind, (va_recv hev.1 (xro hR0 hap hS) (ci := 8) (q0 := 0) rfl rfl), (xpre hev hz hA hP hD hS hR0 hap [5, 6] rfl)⟩ rfl rfl hl.1 rfl (lv_room (Nat.le_of_ble_eq_true rfl)) dX7_sign_2 ⟨Nat.le_of_ble_eq_true rfl, Nat.le_of_ble_eq_true rfl⟩) hP hD hS hA (fun r1 w2 H locs h3 hP hD hS => ?_)
  obtain ⟨rfl, rfl, h3⟩ := h3
  try dsimp only at h3
  have hP : va_P E.1 vwCl [(w0, .inr (5, [.int nu, .int role, .int ver, .long unt, .ref oa, .int (nI oc), .ref qo, .ref tq, .ref dq, .ref ha, .int (nI pn), .int (nI sn), .int rk])), (h, .inr (6, [.ref ms, .ref sc, .ref sa, .int (nI ln)])), (ms, aB E 128 f), (sc, aI E 64 fc), (sa, aI E 8 fa)] H := hP
  have hD : va_D A [(w0, .inr (5, [.int nu, .int role, .int ver, .long unt, .ref oa, .int (nI oc), .ref qo, .ref tq, .ref dq, .ref ha, .int (nI pn), .int (nI sn), .int rk])), (h, .inr (6, [.ref ms, .ref sc, .ref sa, .int (nI ln)])), (ms, aB E 128 f), (sc, aI E 64 fc), (sa, aI E 8 fa)] := hD
  rw [hrx]
  refine lv_astore_n (lv' := [(3, .ref w0), (0, .ref x), (1, .int y), (2, .int z)]) hx hb dX7_sign_5 rfl hl (by decide) rfl (fun ls hl => ?_)
  refine lv_aload_n hx hb dX7_sign_6 rfl (lv_at hl 0 rfl) ?_
  refine lv_ifnull hx hb dX7_sign_7 ?_
  refine lv_aload_n hx hb dX7_sign_10 rfl (lv_at hl 1 rfl) ?_
  refine va_get (D := E.1) (ci := 8) (v := .ref rg) (C := RX7) (T := TX7) (N := 7) hx hb hts hiX7 hown hev.1 (xro hR0 hap hS) 0 rfl rfl 0 (by decide) hf12 (fun _ h9 => h9) rfl dX7_sign_11 ?_
  refine lv_iload_n hx hb dX7_sign_14 rfl (lv_at hl 3 rfl) ?_
  have hP := hP.sub (ws' := [] ++ [(w0, .inr (5, [.int nu, .int role, .int ver, .long unt, .ref oa, .int (nI oc), .ref qo, .ref tq, .ref dq, .ref ha, .int (nI pn), .int (nI sn), .int rk])), (h, .inr (6, [.ref ms, .ref sc, .ref sa, .int (nI ln)])), (ms, aB E 128 f), (sc, aI E 64 fc), (sa, aI E 8 fa)]) [0, 1, 2, 3, 4] rfl
  have hD := hD.sub (ws' := [] ++ [(w0, .inr (5, [.int nu, .int role, .int ver, .long unt, .ref oa, .int (nI oc), .ref qo, .ref tq, .ref dq, .ref ha, .int (nI pn), .int (nI sn), .int rk])), (h, .inr (6, [.ref ms, .ref sc, .ref sa, .int (nI ln)])), (ms, aB E 128 f), (sc, aI E 64 fc), (sa, aI E 8 fa)]) [0, 1, 2, 3, 4] (by decide) rfl
  refine xci (va_runV (As := [.int z]) (rest := []) ⟨hx, hb, hml, hown, hts⟩ (kX2_has l E rg ks ku kn z (by first | assumption | omega) H.size) (cwV 1 hts gX7_sign_X2_has rfl rfl rfl (by decide +kernel) ⟨Nat.le_of_ble_eq_true rfl, Nat.le_of_ble_eq_true rfl⟩) ⟨CP.blind, (va_recv hev.1 (xro hR0 hap hS) (ci := 3) (q0 := 2) rfl rfl), (xpre hev hz hA hP hD hS hR0 hap [7] rfl)⟩ rfl rfl hl.1 rfl (lv_room (Nat.le_of_ble_eq_true rfl)) dX7_sign_15 ⟨Nat.le_of_ble_eq_true rfl, Nat.le_of_ble_eq_true rfl⟩) hP hD hS hA (fun r4 w5 H locs h6 hP hD hS => ?_)
  obtain ⟨rfl, rfl, h6⟩ := h6
  try dsimp only at h6
  have hP : va_P E.1 vwCl [(w0, .inr (5, [.int nu, .int role, .int ver, .long unt, .ref oa, .int (nI oc), .ref qo, .ref tq, .ref dq, .ref ha, .int (nI pn), .int (nI sn), .int rk])), (h, .inr (6, [.ref ms, .ref sc, .ref sa, .int (nI ln)])), (ms, aB E 128 f), (sc, aI E 64 fc), (sa, aI E 8 fa)] H := hP
  have hD : va_D A [(w0, .inr (5, [.int nu, .int role, .int ver, .long unt, .ref oa, .int (nI oc), .ref qo, .ref tq, .ref dq, .ref ha, .int (nI pn), .int (nI sn), .int rk])), (h, .inr (6, [.ref ms, .ref sc, .ref sa, .int (nI ln)])), (ms, aB E 128 f), (sc, aI E 64 fc), (sa, aI E 8 fa)] := hD
  refine lv_if_eq (tgt := 28) hx hb dX7_sign_18 (by decide) (fun c7 => ?_) (fun c7 => ?_)
  · skip
    have kc7 := b1_0.mp c7
    refine lv_lconst (v := 0) hx hb dX7_sign_28 (by decide) ?_
    refine xrl hx hb hr hlocks hP hD hS ⟨sn, rk, ln, f, fc, fa, rfl, ?_⟩ dX7_sign_29
    exact Or.inr ⟨fun q => kc7 q.1, rfl, rfl, rfl⟩
  · skip
    have kc7 := b1_n.mp c7
    refine lv_aload_n hx hb dX7_sign_21 rfl (lv_at hl 0 rfl) ?_
    have hP := hP.sub (ws' := [] ++ [(w0, .inr (5, [.int nu, .int role, .int ver, .long unt, .ref oa, .int (nI oc), .ref qo, .ref tq, .ref dq, .ref ha, .int (nI pn), .int (nI sn), .int rk])), (h, .inr (6, [.ref ms, .ref sc, .ref sa, .int (nI ln)])), (ms, aB E 128 f), (sc, aI E 64 fc), (sa, aI E 8 fa)]) [0, 1, 2, 3, 4] rfl
    have hD := hD.sub (ws' := [] ++ [(w0, .inr (5, [.int nu, .int role, .int ver, .long unt, .ref oa, .int (nI oc), .ref qo, .ref tq, .ref dq, .ref ha, .int (nI pn), .int (nI sn), .int rk])), (h, .inr (6, [.ref ms, .ref sc, .ref sa, .int (nI ln)])), (ms, aB E 128 f), (sc, aI E 64 fc), (sa, aI E 8 fa)]) [0, 1, 2, 3, 4] (by decide) rfl
    refine xci (va_runV (As := []) (rest := []) ⟨hx, hb, hml, hown, hts⟩ (kX4_isFullySigned l E w0 nu role ver unt oa oc qo tq dq ha pn sn rk (by first | assumption | omega) H.size) (cwV 0 hts gX7_sign_X4_isFullySigned rfl rfl rfl (by decide +kernel) ⟨Nat.le_of_ble_eq_true rfl, Nat.le_of_ble_eq_true rfl⟩) ⟨CP.blind, (va_recv hev.1 hP (ci := 5) (q0 := 0) rfl rfl), (xpre hev hz hA hP hD hS hR0 hap [0] rfl)⟩ rfl rfl hl.1 rfl (lv_room (Nat.le_of_ble_eq_true rfl)) dX7_sign_22 ⟨Nat.le_of_ble_eq_true rfl, Nat.le_of_ble_eq_true rfl⟩) hP hD hS hA (fun r8 w9 H locs h10 hP hD hS => ?_)
    obtain ⟨rfl, rfl, h10⟩ := h10
    try dsimp only at h10
    have hP : va_P E.1 vwCl [(w0, .inr (5, [.int nu, .int role, .int ver, .long unt, .ref oa, .int (nI oc), .ref qo, .ref tq, .ref dq, .ref ha, .int (nI pn), .int (nI sn), .int rk])), (h, .inr (6, [.ref ms, .ref sc, .ref sa, .int (nI ln)])), (ms, aB E 128 f), (sc, aI E 64 fc), (sa, aI E 8 fa)] H := hP
    have hD : va_D A [(w0, .inr (5, [.int nu, .int role, .int ver, .long unt, .ref oa, .int (nI oc), .ref qo, .ref tq, .ref dq, .ref ha, .int (nI pn), .int (nI sn), .int rk])), (h, .inr (6, [.ref ms, .ref sc, .ref sa, .int (nI ln)])), (ms, aB E 128 f), (sc, aI E 64 fc), (sa, aI E 8 fa)] := hD
    refine lv_if_eq (tgt := 30) hx hb dX7_sign_25 (by decide) (fun c11 => ?_) (fun c11 => ?_)
    · skip
      have kc11 := b1_0.mp c11
      obtain ⟨k, hk, rfl⟩ := kc7
      refine lv_aload_n hx hb dX7_sign_30 rfl (lv_at hl 1 rfl) ?_
      refine lv_aload_n hx hb dX7_sign_31 rfl (lv_at hl 0 rfl) ?_
      refine lv_iload_n hx hb dX7_sign_32 rfl (lv_at hl 3 rfl) ?_
      have hP := hP.sub (ws' := [(h, .inr (6, [.ref ms, .ref sc, .ref sa, .int (nI ln)])), (ms, aB E 128 f), (sc, aI E 64 fc), (sa, aI E 8 fa)] ++ [(w0, .inr (5, [.int nu, .int role, .int ver, .long unt, .ref oa, .int (nI oc), .ref qo, .ref tq, .ref dq, .ref ha, .int (nI pn), .int (nI sn), .int rk]))]) [1, 2, 3, 4, 0] rfl
      have hD := hD.sub (ws' := [(h, .inr (6, [.ref ms, .ref sc, .ref sa, .int (nI ln)])), (ms, aB E 128 f), (sc, aI E 64 fc), (sa, aI E 8 fa)] ++ [(w0, .inr (5, [.int nu, .int role, .int ver, .long unt, .ref oa, .int (nI oc), .ref qo, .ref tq, .ref dq, .ref ha, .int (nI pn), .int (nI sn), .int rk]))]) [1, 2, 3, 4, 0] (by decide) rfl
      refine xcl (va_runV (As := [.ref w0, .int (nI k)]) (rest := []) ⟨hx, hb, hml, hown, hts⟩ (kX7_rightSignature l E x rg dr rs nr c0 h td ks ku kn fs ms sc sa ln f fc fa w0 nu role ver unt oa oc qo tq dq ha pn (nI sn) rk fo na ma fn fm ra va tn fr fv pa ta ea dn fp ft fe fh k (by first | assumption | omega) (by first | assumption | omega) (by first | assumption | omega) (by first | assumption | omega) (by first | assumption | omega) (by first | assumption | omega) H.size) (cwV 2 hts gX7_sign_X7_rightSignature rfl rfl rfl (by decide +kernel) ⟨Nat.le_of_ble_eq_true rfl, Nat.le_of_ble_eq_true rfl⟩) ⟨CP.blind, (va_recv hev.1 (xro hR0 hap hS) (ci := 8) (q0 := 0) rfl rfl), (xpre hev hz hA hP hD hS hR0 hap [1, 3, 4, 0, 5, 6, 7, 8, 9, 10, 11, 12, 13, 14, 15, 16] rfl)⟩ rfl rfl hl.1 rfl (lv_room (Nat.le_of_ble_eq_true rfl)) dX7_sign_33 ⟨Nat.le_of_ble_eq_true rfl, Nat.le_of_ble_eq_true rfl⟩) hP hD hS hA (fun r12 w13 H locs h14 hP hD hS => ?_)
      obtain ⟨l215, g16, gc17, ga18, rfl, rfl, h14⟩ := h14
      try dsimp only at h14
      have hP : va_P E.1 vwCl [(h, .inr (6, [.ref ms, .ref sc, .ref sa, .int (nI l215)])), (ms, aB E 128 g16), (sc, aI E 64 gc17), (sa, aI E 8 ga18), (w0, .inr (5, [.int nu, .int role, .int ver, .long unt, .ref oa, .int (nI oc), .ref qo, .ref tq, .ref dq, .ref ha, .int (nI pn), .int (nI sn), .int rk]))] H := hP
      have hD : va_D A [(h, .inr (6, [.ref ms, .ref sc, .ref sa, .int (nI l215)])), (ms, aB E 128 g16), (sc, aI E 64 gc17), (sa, aI E 8 ga18), (w0, .inr (5, [.int nu, .int role, .int ver, .long unt, .ref oa, .int (nI oc), .ref qo, .ref tq, .ref dq, .ref ha, .int (nI pn), .int (nI sn), .int rk]))] := hD
      refine lv_topl (fun v19 ev19 => ?_)
      refine lv_lstore (lv' := [(4, .long v19), (3, .ref w0), (0, .ref x), (1, .int y), (2, .int (nI k))]) hx hb dX7_sign_36 hl (by decide) rfl (fun ls hl => ?_)
      refine lv_aload_n hx hb dX7_sign_38 rfl (lv_at hl 1 rfl) ?_
      refine lv_iload_n hx hb dX7_sign_39 rfl (lv_at hl 4 rfl) ?_
      refine lv_iconst (v := 1) hx hb dX7_sign_40 (by decide) ?_
      have hP := hP.sub (ws' := [(w0, .inr (5, [.int nu, .int role, .int ver, .long unt, .ref oa, .int (nI oc), .ref qo, .ref tq, .ref dq, .ref ha, .int (nI pn), .int (nI sn), .int rk]))] ++ [(h, .inr (6, [.ref ms, .ref sc, .ref sa, .int (nI l215)])), (ms, aB E 128 g16), (sc, aI E 64 gc17), (sa, aI E 8 ga18)]) [4, 0, 1, 2, 3] rfl
      have hD := hD.sub (ws' := [(w0, .inr (5, [.int nu, .int role, .int ver, .long unt, .ref oa, .int (nI oc), .ref qo, .ref tq, .ref dq, .ref ha, .int (nI pn), .int (nI sn), .int rk]))] ++ [(h, .inr (6, [.ref ms, .ref sc, .ref sa, .int (nI l215)])), (ms, aB E 128 g16), (sc, aI E 64 gc17), (sa, aI E 8 ga18)]) [4, 0, 1, 2, 3] (by decide) rfl
      refine xcv (va_runV (As := [.int (nI k), .int 1]) (rest := []) ⟨hx, hb, hml, hown, hts⟩ (kX4_addSignature l E w0 nu role ver unt oa oc qo tq dq ha pn sn rk (nI k) 1  H.size) (cwV 2 hts gX7_sign_X4_addSignature rfl rfl rfl (by decide +kernel) ⟨Nat.le_of_ble_eq_true rfl, Nat.le_of_ble_eq_true rfl⟩) ⟨CP.blind, (va_recv hev.1 hP.left (ci := 5) (q0 := 0) rfl rfl), (xpre hev hz hA hP hD hS hR0 hap [] rfl)⟩ rfl rfl hl.1 rfl (lv_room (Nat.le_of_ble_eq_true rfl)) dX7_sign_41 ⟨Nat.le_of_ble_eq_true rfl, Nat.le_of_ble_eq_true rfl⟩) hP hD hS hA (fun w21 H locs h22 hP hD hS => ?_)
      obtain ⟨rk223, rfl, h22⟩ := h22
      try dsimp only at h22
      have hP : va_P E.1 vwCl [(w0, .inr (5, [.int nu, .int role, .int ver, .long unt, .ref oa, .int (nI oc), .ref qo, .ref tq, .ref dq, .ref ha, .int (nI pn), .int (nI (sn + 1)), .int rk223])), (h, .inr (6, [.ref ms, .ref sc, .ref sa, .int (nI l215)])), (ms, aB E 128 g16), (sc, aI E 64 gc17), (sa, aI E 8 ga18)] H := hP
      have hD : va_D A [(w0, .inr (5, [.int nu, .int role, .int ver, .long unt, .ref oa, .int (nI oc), .ref qo, .ref tq, .ref dq, .ref ha, .int (nI pn), .int (nI (sn + 1)), .int rk223])), (h, .inr (6, [.ref ms, .ref sc, .ref sa, .int (nI l215)])), (ms, aB E 128 g16), (sc, aI E 64 gc17), (sa, aI E 8 ga18)] := hD
      refine lv_lload hx hb dX7_sign_44 (lv_at hl 0 rfl) ?_
      refine xrl hx hb hr hlocks hP hD hS ⟨(sn + 1), rk223, l215, g16, gc17, ga18, rfl, ?_⟩ dX7_sign_46
      exact Or.inl ⟨k, hk, rfl, by omega, by assumption, rfl, h22.2 (by decide)⟩
    · skip
      have kc11 := b1_n.mp c11
      refine lv_lconst (v := 0) hx hb dX7_sign_28 (by decide) ?_
      refine xrl hx hb hr hlocks hP hD hS ⟨sn, rk, ln, f, fc, fa, rfl, ?_⟩ dX7_sign_29
      exact Or.inr ⟨fun q => absurd q.2 (by omega), rfl, rfl, rfl⟩

abbrev pX7_forgeN (E : xE) (x : Nat) (rg : Nat) (dr : Nat) (rs : Nat) (nr : Int32) (c0 : Nat) (h : Nat) (td : Nat) (rf : Nat → Option Nat) (y : Int32) (z : Int32) (sv : Int64) (r : Int32) (w : va_W) : Prop := w = [] ∧ r = 0 ∧ (True)
set_option maxHeartbeats 4000000 in
set_option maxRecDepth 100000 in
theorem kX7_forgeN (l : Launch) (E : xE) (x : Nat) (rg : Nat) (dr : Nat) (rs : Nat) (nr : Int32) (c0 : Nat) (h : Nat) (td : Nat) (rf : Nat → Option Nat) (y : Int32) (z : Int32) (sv : Int64) (hrx : rAt rf y = none) : KT l yX7_forge wsX7_forge 1 21 0 0 E [] [(x, .inr (8, [.ref rg, .ref dr, .ref rs, .int nr, .ref c0, .ref h, .ref td])), (rs, aR E 24 rf)] [.ref x, .int y, .int z, .long sv] (QI E (pX7_forgeN E x rg dr rs nr c0 h td rf y z sv)) := by
  refine KT.start (cc := cX7_forge) (maxL := 6) (ret := (some .boolean)) (by decide) rfl (Nat.le_of_ble_eq_true rfl) ?_
  intro p e s m below meth c A H hx hb hr hlocks hml hts hown hin hP hR0 hD hap hev hz hA hS ls hl
  have hl : lv_has ls 6 [(0, .ref x), (1, .int y), (2, .int z), (3, .long sv)] := hl
  refine lv_aload_n hx hb dX7_forge_0 rfl (lv_at hl 0 rfl) ?_
  refine lv_iload_n hx hb dX7_forge_1 rfl (lv_at hl 1 rfl) ?_
  have hP := hP.sub (ws' := [] ++ []) [] rfl
  have hD := hD.sub (ws' := [] ++ []) [] (by decide) rfl
  refine xcr (va_runV (As := [.int y]) (rest := []) ⟨hx, hb, hml, hown, hts⟩ (kX7_rowAt l E x rg dr rs nr c0 h td rf y  H.size) (cwV 1 hts gX7_forge_X7_rowAt rfl rfl rfl (by decide +kernel) ⟨Nat.le_of_ble_eq_true rfl, Nat.le_of_ble_eq_true rfl⟩) ⟨CP.blind, (va_recv hev.1 (xro hR0 hap hS) (ci := 8) (q0 := 0) rfl rfl), (xpre hev hz hA hP hD hS hR0 hap [0, 1] rfl)⟩ rfl rfl hl.1 rfl (lv_room (Nat.le_of_ble_eq_true rfl)) dX7_forge_2 ⟨Nat.le_of_ble_eq_true rfl, Nat.le_of_ble_eq_true rfl⟩) hP hD hS hA (fun r1 w2 H locs h3 hP hD hS => ?_)
  obtain ⟨rfl, rfl, h3⟩ := h3
  try dsimp only at h3
  have hP : va_P E.1 vwCl [] H := hP
  have hD : va_D A [] := hD
  rw [hrx]
  refine lv_astoreN (lv' := [(5, .null), (0, .ref x), (1, .int y), (2, .int z), (3, .long sv)]) hx hb dX7_forge_5 hl (by decide) rfl (fun ls hl => ?_)
  refine lv_aloadN hx hb dX7_forge_7 (lv_at hl 0 rfl) ?_
  refine lv_ifnullN (tgt := 31) hx hb dX7_forge_9 (by decide) ?_
  refine lv_iconst (v := 0) hx hb dX7_forge_31 (by decide) ?_
  refine xrz hx hb hr hlocks (by first | rfl | decide | exact b1_narrow _) hP hD hS ⟨rfl, ?_, ?_⟩ dX7_forge_32
  · rfl
  · trivial

abbrev pX7_forge (E : xE) (x : Nat) (rg : Nat) (dr : Nat) (rs : Nat) (nr : Int32) (c0 : Nat) (h : Nat) (td : Nat) (rf : Nat → Option Nat) (ks : Nat) (ku : Nat) (kn : Nat) (fs : Nat → Int64) (ms : Nat) (sc : Nat) (sa : Nat) (ln : Nat) (f : Nat → Int32) (fc : Nat → Int32) (fa : Nat → Int32) (w0 : Nat) (nu : Int32) (role : Int32) (ver : Int32) (unt : Int64) (oa : Nat) (oc : Nat) (qo : Nat) (tq : Nat) (dq : Nat) (ha : Nat) (pn : Nat) (sn : Nat) (rk : Int32) (fo : Nat → Int32) (na : Nat) (ma : Nat) (fn : Nat → Int32) (fm : Nat → Int32) (ra : Nat) (va : Nat) (tn : Nat) (fr : Nat → Int32) (fv : Nat → Int32) (pa : Nat) (ta : Nat) (ea : Nat) (dn : Nat) (fp : Nat → Int32) (ft : Nat → Int32) (fe : Nat → Int32) (fh : Nat → Int32) (y : Int32) (z : Int32) (sv : Int64) (r : Int32) (w : va_W) : Prop := ∃ (sn2 : Nat) (rk2 : Int32) (l2 : Nat) (g : Nat → Int32) (gc : Nat → Int32) (ga : Nat → Int32), w = [(w0, .inr (5, [.int nu, .int role, .int ver, .long unt, .ref oa, .int (nI oc), .ref qo, .ref tq, .ref dq, .ref ha, .int (nI pn), .int (nI sn2), .int rk2])), (h, .inr (6, [.ref ms, .ref sc, .ref sa, .int (nI l2)])), (ms, aB E 128 g), (sc, aI E 64 gc), (sa, aI E 8 ga)] ∧ ((∃ k, k < kn ∧ z = nI k ∧ sn < 12 ∧ r = 1 ∧ sn2 = sn + 1 ∧ (sv = eight (shaL (bL (fs k) ++ rowB role ver unt oc fo fn fm tn fr fv dn fp ft fe pn fh)) → rk2 = rk ||| (1 <<< (nI k &&& 31))) ∧ (¬ sv = eight (shaL (bL (fs k) ++ rowB role ver unt oc fo fn fm tn fr fv dn fp ft fe pn fh)) → rk2 = rk)) ∨ (¬ (isN z kn ∧ sn < 12) ∧ r = 0 ∧ sn2 = sn ∧ rk2 = rk))
set_option maxHeartbeats 4000000 in
set_option maxRecDepth 100000 in
theorem kX7_forge (l : Launch) (E : xE) (x : Nat) (rg : Nat) (dr : Nat) (rs : Nat) (nr : Int32) (c0 : Nat) (h : Nat) (td : Nat) (rf : Nat → Option Nat) (ks : Nat) (ku : Nat) (kn : Nat) (fs : Nat → Int64) (ms : Nat) (sc : Nat) (sa : Nat) (ln : Nat) (f : Nat → Int32) (fc : Nat → Int32) (fa : Nat → Int32) (w0 : Nat) (nu : Int32) (role : Int32) (ver : Int32) (unt : Int64) (oa : Nat) (oc : Nat) (qo : Nat) (tq : Nat) (dq : Nat) (ha : Nat) (pn : Nat) (sn : Nat) (rk : Int32) (fo : Nat → Int32) (na : Nat) (ma : Nat) (fn : Nat → Int32) (fm : Nat → Int32) (ra : Nat) (va : Nat) (tn : Nat) (fr : Nat → Int32) (fv : Nat → Int32) (pa : Nat) (ta : Nat) (ea : Nat) (dn : Nat) (fp : Nat → Int32) (ft : Nat → Int32) (fe : Nat → Int32) (fh : Nat → Int32) (y : Int32) (z : Int32) (sv : Int64) (hrx : rAt rf y = some w0) (hsn : sn ≤ 12) (hkn : kn ≤ 20) (hoc : oc ≤ 16) (htn : tn ≤ 7) (hdn : dn ≤ 6) (hpn : pn ≤ 6) : KT l yX7_forge wsX7_forge 5 109 0 0 E [(w0, .inr (5, [.int nu, .int role, .int ver, .long unt, .ref oa, .int (nI oc), .ref qo, .ref tq, .ref dq, .ref ha, .int (nI pn), .int (nI sn), .int rk])), (h, .inr (6, [.ref ms, .ref sc, .ref sa, .int (nI ln)])), (ms, aB E 128 f), (sc, aI E 64 fc), (sa, aI E 8 fa)] [(x, .inr (8, [.ref rg, .ref dr, .ref rs, .int nr, .ref c0, .ref h, .ref td])), (rs, aR E 24 rf), (rg, .inr (3, [.ref ks, .ref ku, .int (nI kn)])), (ks, aJ E 20 fs), (oa, aB E 16 fo), (qo, .inr (4, [.ref na, .ref ma])), (na, aI E 10 fn), (ma, aI E 10 fm), (tq, .inr (7, [.ref ra, .ref va, .int (nI tn)])), (ra, aI E 7 fr), (va, aI E 7 fv), (dq, .inr (2, [.ref pa, .ref ta, .ref ea, .int (nI dn)])), (pa, aI E 6 fp), (ta, aI E 6 ft), (ea, aZ E 6 fe), (ha, aI E 6 fh)] [.ref x, .int y, .int z, .long sv] (QI E (pX7_forge E x rg dr rs nr c0 h td rf ks ku kn fs ms sc sa ln f fc fa w0 nu role ver unt oa oc qo tq dq ha pn sn rk fo na ma fn fm ra va tn fr fv pa ta ea dn fp ft fe fh y z sv)) := by
  refine KT.start (cc := cX7_forge) (maxL := 6) (ret := (some .boolean)) (by decide) rfl (Nat.le_of_ble_eq_true rfl) ?_
  intro p e s m below meth c A H hx hb hr hlocks hml hts hown hin hP hR0 hD hap hev hz hA hS ls hl
  have hl : lv_has ls 6 [(0, .ref x), (1, .int y), (2, .int z), (3, .long sv)] := hl
  have hiX7 : ∀ w ∈ wsX70, w ∈ wsX7_forge := by decide +kernel
  have hf12 := hts (.fieldLink RX7 12 "SignQuorum" "ring" "LSignQuorum$KeyRing;") (by decide +kernel)
  refine lv_aload_n hx hb dX7_forge_0 rfl (lv_at hl 0 rfl) ?_
  refine lv_iload_n hx hb dX7_forge_1 rfl (lv_at hl 1 rfl) ?_
  have hP := hP.sub (ws' := [] ++ [(w0, .inr (5, [.int nu, .int role, .int ver, .long unt, .ref oa, .int (nI oc), .ref qo, .ref tq, .ref dq, .ref ha, .int (nI pn), .int (nI sn), .int rk])), (h, .inr (6, [.ref ms, .ref sc, .ref sa, .int (nI ln)])), (ms, aB E 128 f), (sc, aI E 64 fc), (sa, aI E 8 fa)]) [0, 1, 2, 3, 4] rfl
  have hD := hD.sub (ws' := [] ++ [(w0, .inr (5, [.int nu, .int role, .int ver, .long unt, .ref oa, .int (nI oc), .ref qo, .ref tq, .ref dq, .ref ha, .int (nI pn), .int (nI sn), .int rk])), (h, .inr (6, [.ref ms, .ref sc, .ref sa, .int (nI ln)])), (ms, aB E 128 f), (sc, aI E 64 fc), (sa, aI E 8 fa)]) [0, 1, 2, 3, 4] (by decide) rfl
  refine xcr (va_runV (As := [.int y]) (rest := []) ⟨hx, hb, hml, hown, hts⟩ (kX7_rowAt l E x rg dr rs nr c0 h td rf y  H.size) (cwV 1 hts gX7_forge_X7_rowAt rfl rfl rfl (by decide +kernel) ⟨Nat.le_of_ble_eq_true rfl, Nat.le_of_ble_eq_true rfl⟩) ⟨CP.blind, (va_recv hev.1 (xro hR0 hap hS) (ci := 8) (q0 := 0) rfl rfl), (xpre hev hz hA hP hD hS hR0 hap [5, 6] rfl)⟩ rfl rfl hl.1 rfl (lv_room (Nat.le_of_ble_eq_true rfl)) dX7_forge_2 ⟨Nat.le_of_ble_eq_true rfl, Nat.le_of_ble_eq_true rfl⟩) hP hD hS hA (fun r1 w2 H locs h3 hP hD hS => ?_)
  obtain ⟨rfl, rfl, h3⟩ := h3
  try dsimp only at h3
  have hP : va_P E.1 vwCl [(w0, .inr (5, [.int nu, .int role, .int ver, .long unt, .ref oa, .int (nI oc), .ref qo, .ref tq, .ref dq, .ref ha, .int (nI pn), .int (nI sn), .int rk])), (h, .inr (6, [.ref ms, .ref sc, .ref sa, .int (nI ln)])), (ms, aB E 128 f), (sc, aI E 64 fc), (sa, aI E 8 fa)] H := hP
  have hD : va_D A [(w0, .inr (5, [.int nu, .int role, .int ver, .long unt, .ref oa, .int (nI oc), .ref qo, .ref tq, .ref dq, .ref ha, .int (nI pn), .int (nI sn), .int rk])), (h, .inr (6, [.ref ms, .ref sc, .ref sa, .int (nI ln)])), (ms, aB E 128 f), (sc, aI E 64 fc), (sa, aI E 8 fa)] := hD
  rw [hrx]
  refine lv_astore (lv' := [(5, .ref w0), (0, .ref x), (1, .int y), (2, .int z), (3, .long sv)]) hx hb dX7_forge_5 hl (by decide) rfl (fun ls hl => ?_)
  refine lv_aload hx hb dX7_forge_7 (lv_at hl 0 rfl) ?_
  refine lv_ifnull hx hb dX7_forge_9 ?_
  refine lv_aload_n hx hb dX7_forge_12 rfl (lv_at hl 1 rfl) ?_
  refine va_get (D := E.1) (ci := 8) (v := .ref rg) (C := RX7) (T := TX7) (N := 7) hx hb hts hiX7 hown hev.1 (xro hR0 hap hS) 0 rfl rfl 0 (by decide) hf12 (fun _ h9 => h9) rfl dX7_forge_13 ?_
  refine lv_iload_n hx hb dX7_forge_16 rfl (lv_at hl 3 rfl) ?_
  have hP := hP.sub (ws' := [] ++ [(w0, .inr (5, [.int nu, .int role, .int ver, .long unt, .ref oa, .int (nI oc), .ref qo, .ref tq, .ref dq, .ref ha, .int (nI pn), .int (nI sn), .int rk])), (h, .inr (6, [.ref ms, .ref sc, .ref sa, .int (nI ln)])), (ms, aB E 128 f), (sc, aI E 64 fc), (sa, aI E 8 fa)]) [0, 1, 2, 3, 4] rfl
  have hD := hD.sub (ws' := [] ++ [(w0, .inr (5, [.int nu, .int role, .int ver, .long unt, .ref oa, .int (nI oc), .ref qo, .ref tq, .ref dq, .ref ha, .int (nI pn), .int (nI sn), .int rk])), (h, .inr (6, [.ref ms, .ref sc, .ref sa, .int (nI ln)])), (ms, aB E 128 f), (sc, aI E 64 fc), (sa, aI E 8 fa)]) [0, 1, 2, 3, 4] (by decide) rfl
  refine xci (va_runV (As := [.int z]) (rest := []) ⟨hx, hb, hml, hown, hts⟩ (kX2_has l E rg ks ku kn z (by first | assumption | omega) H.size) (cwV 1 hts gX7_forge_X2_has rfl rfl rfl (by decide +kernel) ⟨Nat.le_of_ble_eq_true rfl, Nat.le_of_ble_eq_true rfl⟩) ⟨CP.blind, (va_recv hev.1 (xro hR0 hap hS) (ci := 3) (q0 := 2) rfl rfl), (xpre hev hz hA hP hD hS hR0 hap [7] rfl)⟩ rfl rfl hl.1 rfl (lv_room (Nat.le_of_ble_eq_true rfl)) dX7_forge_17 ⟨Nat.le_of_ble_eq_true rfl, Nat.le_of_ble_eq_true rfl⟩) hP hD hS hA (fun r4 w5 H locs h6 hP hD hS => ?_)
  obtain ⟨rfl, rfl, h6⟩ := h6
  try dsimp only at h6
  have hP : va_P E.1 vwCl [(w0, .inr (5, [.int nu, .int role, .int ver, .long unt, .ref oa, .int (nI oc), .ref qo, .ref tq, .ref dq, .ref ha, .int (nI pn), .int (nI sn), .int rk])), (h, .inr (6, [.ref ms, .ref sc, .ref sa, .int (nI ln)])), (ms, aB E 128 f), (sc, aI E 64 fc), (sa, aI E 8 fa)] H := hP
  have hD : va_D A [(w0, .inr (5, [.int nu, .int role, .int ver, .long unt, .ref oa, .int (nI oc), .ref qo, .ref tq, .ref dq, .ref ha, .int (nI pn), .int (nI sn), .int rk])), (h, .inr (6, [.ref ms, .ref sc, .ref sa, .int (nI ln)])), (ms, aB E 128 f), (sc, aI E 64 fc), (sa, aI E 8 fa)] := hD
  refine lv_if_eq (tgt := 31) hx hb dX7_forge_20 (by decide) (fun c7 => ?_) (fun c7 => ?_)
  · skip
    have kc7 := b1_0.mp c7
    refine lv_iconst (v := 0) hx hb dX7_forge_31 (by decide) ?_
    refine xrz hx hb hr hlocks (by first | rfl | decide | exact b1_narrow _) hP hD hS ⟨sn, rk, ln, f, fc, fa, rfl, ?_⟩ dX7_forge_32
    exact Or.inr ⟨fun q => kc7 q.1, rfl, rfl, rfl⟩
  · skip
    have kc7 := b1_n.mp c7
    refine lv_aload hx hb dX7_forge_23 (lv_at hl 0 rfl) ?_
    have hP := hP.sub (ws' := [] ++ [(w0, .inr (5, [.int nu, .int role, .int ver, .long unt, .ref oa, .int (nI oc), .ref qo, .ref tq, .ref dq, .ref ha, .int (nI pn), .int (nI sn), .int rk])), (h, .inr (6, [.ref ms, .ref sc, .ref sa, .int (nI ln)])), (ms, aB E 128 f), (sc, aI E 64 fc), (sa, aI E 8 fa)]) [0, 1, 2, 3, 4] rfl
    have hD := hD.sub (ws' := [] ++ [(w0, .inr (5, [.int nu, .int role, .int ver, .long unt, .ref oa, .int (nI oc), .ref qo, .ref tq, .ref dq, .ref ha, .int (nI pn), .int (nI sn), .int rk])), (h, .inr (6, [.ref ms, .ref sc, .ref sa, .int (nI ln)])), (ms, aB E 128 f), (sc, aI E 64 fc), (sa, aI E 8 fa)]) [0, 1, 2, 3, 4] (by decide) rfl
    refine xci (va_runV (As := []) (rest := []) ⟨hx, hb, hml, hown, hts⟩ (kX4_isFullySigned l E w0 nu role ver unt oa oc qo tq dq ha pn sn rk (by first | assumption | omega) H.size) (cwV 0 hts gX7_forge_X4_isFullySigned rfl rfl rfl (by decide +kernel) ⟨Nat.le_of_ble_eq_true rfl, Nat.le_of_ble_eq_true rfl⟩) ⟨CP.blind, (va_recv hev.1 hP (ci := 5) (q0 := 0) rfl rfl), (xpre hev hz hA hP hD hS hR0 hap [0] rfl)⟩ rfl rfl hl.1 rfl (lv_room (Nat.le_of_ble_eq_true rfl)) dX7_forge_25 ⟨Nat.le_of_ble_eq_true rfl, Nat.le_of_ble_eq_true rfl⟩) hP hD hS hA (fun r8 w9 H locs h10 hP hD hS => ?_)
    obtain ⟨rfl, rfl, h10⟩ := h10
    try dsimp only at h10
    have hP : va_P E.1 vwCl [(w0, .inr (5, [.int nu, .int role, .int ver, .long unt, .ref oa, .int (nI oc), .ref qo, .ref tq, .ref dq, .ref ha, .int (nI pn), .int (nI sn), .int rk])), (h, .inr (6, [.ref ms, .ref sc, .ref sa, .int (nI ln)])), (ms, aB E 128 f), (sc, aI E 64 fc), (sa, aI E 8 fa)] H := hP
    have hD : va_D A [(w0, .inr (5, [.int nu, .int role, .int ver, .long unt, .ref oa, .int (nI oc), .ref qo, .ref tq, .ref dq, .ref ha, .int (nI pn), .int (nI sn), .int rk])), (h, .inr (6, [.ref ms, .ref sc, .ref sa, .int (nI ln)])), (ms, aB E 128 f), (sc, aI E 64 fc), (sa, aI E 8 fa)] := hD
    refine lv_if_eq (tgt := 33) hx hb dX7_forge_28 (by decide) (fun c11 => ?_) (fun c11 => ?_)
    · skip
      have kc11 := b1_0.mp c11
      obtain ⟨k, hk, rfl⟩ := kc7
      refine lv_aload hx hb dX7_forge_33 (lv_at hl 0 rfl) ?_
      refine lv_iload_n hx hb dX7_forge_35 rfl (lv_at hl 3 rfl) ?_
      refine lv_lload_n hx hb dX7_forge_36 rfl (lv_at hl 4 rfl) ?_
      refine lv_aload_n hx hb dX7_forge_37 rfl (lv_at hl 1 rfl) ?_
      refine lv_aload hx hb dX7_forge_38 (lv_at hl 0 rfl) ?_
      refine lv_iload_n hx hb dX7_forge_40 rfl (lv_at hl 3 rfl) ?_
      have hP := hP.sub (ws' := [(h, .inr (6, [.ref ms, .ref sc, .ref sa, .int (nI ln)])), (ms, aB E 128 f), (sc, aI E 64 fc), (sa, aI E 8 fa)] ++ [(w0, .inr (5, [.int nu, .int role, .int ver, .long unt, .ref oa, .int (nI oc), .ref qo, .ref tq, .ref dq, .ref ha, .int (nI pn), .int (nI sn), .int rk]))]) [1, 2, 3, 4, 0] rfl
      have hD := hD.sub (ws' := [(h, .inr (6, [.ref ms, .ref sc, .ref sa, .int (nI ln)])), (ms, aB E 128 f), (sc, aI E 64 fc), (sa, aI E 8 fa)] ++ [(w0, .inr (5, [.int nu, .int role, .int ver, .long unt, .ref oa, .int (nI oc), .ref qo, .ref tq, .ref dq, .ref ha, .int (nI pn), .int (nI sn), .int rk]))]) [1, 2, 3, 4, 0] (by decide) rfl
      refine xcl (va_runV (As := [.ref w0, .int (nI k)]) (rest := [.long sv, .int (nI k), .ref w0]) ⟨hx, hb, hml, hown, hts⟩ (kX7_rightSignature l E x rg dr rs nr c0 h td ks ku kn fs ms sc sa ln f fc fa w0 nu role ver unt oa oc qo tq dq ha pn (nI sn) rk fo na ma fn fm ra va tn fr fv pa ta ea dn fp ft fe fh k (by first | assumption | omega) (by first | assumption | omega) (by first | assumption | omega) (by first | assumption | omega) (by first | assumption | omega) (by first | assumption | omega) H.size) (cwV 2 hts gX7_forge_X7_rightSignature rfl rfl rfl (by decide +kernel) ⟨Nat.le_of_ble_eq_true rfl, Nat.le_of_ble_eq_true rfl⟩) ⟨CP.blind, (va_recv hev.1 (xro hR0 hap hS) (ci := 8) (q0 := 0) rfl rfl), (xpre hev hz hA hP hD hS hR0 hap [1, 3, 4, 0, 5, 6, 7, 8, 9, 10, 11, 12, 13, 14, 15, 16] rfl)⟩ rfl rfl hl.1 rfl (lv_room (Nat.le_of_ble_eq_true rfl)) dX7_forge_41 ⟨Nat.le_of_ble_eq_true rfl, Nat.le_of_ble_eq_true rfl⟩) hP hD hS hA (fun r12 w13 H locs h14 hP hD hS => ?_)
      obtain ⟨l215, g16, gc17, ga18, rfl, rfl, h14⟩ := h14
      try dsimp only at h14
      have hP : va_P E.1 vwCl [(h, .inr (6, [.ref ms, .ref sc, .ref sa, .int (nI l215)])), (ms, aB E 128 g16), (sc, aI E 64 gc17), (sa, aI E 8 ga18), (w0, .inr (5, [.int nu, .int role, .int ver, .long unt, .ref oa, .int (nI oc), .ref qo, .ref tq, .ref dq, .ref ha, .int (nI pn), .int (nI sn), .int rk]))] H := hP
      have hD : va_D A [(h, .inr (6, [.ref ms, .ref sc, .ref sa, .int (nI l215)])), (ms, aB E 128 g16), (sc, aI E 64 gc17), (sa, aI E 8 ga18), (w0, .inr (5, [.int nu, .int role, .int ver, .long unt, .ref oa, .int (nI oc), .ref qo, .ref tq, .ref dq, .ref ha, .int (nI pn), .int (nI sn), .int rk]))] := hD
      refine W.lcmp hx hb dX7_forge_44 ?_
      refine lv_if_ne (tgt := 52) hx hb dX7_forge_45 (by decide) (fun c19 => ?_) (fun c19 => ?_)
      · skip
        have kc19 : ¬ sv = (eight (shaL (bL (fs k) ++ rowB role ver unt oc fo fn fm tn fr fv dn fp ft fe pn fh))) := fun h9 => c19 ((lg_cmp_eq sv (eight (shaL (bL (fs k) ++ rowB role ver unt oc fo fn fm tn fr fv dn fp ft fe pn fh)))).mpr h9)
        refine lv_iconst (v := 0) hx hb dX7_forge_52 (by decide) ?_
        have hP := hP.sub (ws' := [(w0, .inr (5, [.int nu, .int role, .int ver, .long unt, .ref oa, .int (nI oc), .ref qo, .ref tq, .ref dq, .ref ha, .int (nI pn), .int (nI sn), .int rk]))] ++ [(h, .inr (6, [.ref ms, .ref sc, .ref sa, .int (nI l215)])), (ms, aB E 128 g16), (sc, aI E 64 gc17), (sa, aI E 8 ga18)]) [4, 0, 1, 2, 3] rfl
        have hD := hD.sub (ws' := [(w0, .inr (5, [.int nu, .int role, .int ver, .long unt, .ref oa, .int (nI oc), .ref qo, .ref tq, .ref dq, .ref ha, .int (nI pn), .int (nI sn), .int rk]))] ++ [(h, .inr (6, [.ref ms, .ref sc, .ref sa, .int (nI l215)])), (ms, aB E 128 g16), (sc, aI E 64 gc17), (sa, aI E 8 ga18)]) [4, 0, 1, 2, 3] (by decide) rfl
        refine xcv (va_runV (As := [.int (nI k), .int 0]) (rest := []) ⟨hx, hb, hml, hown, hts⟩ (kX4_addSignature l E w0 nu role ver unt oa oc qo tq dq ha pn sn rk (nI k) 0  H.size) (cwV 2 hts gX7_forge_X4_addSignature rfl rfl rfl (by decide +kernel) ⟨Nat.le_of_ble_eq_true rfl, Nat.le_of_ble_eq_true rfl⟩) ⟨CP.blind, (va_recv hev.1 hP.left (ci := 5) (q0 := 0) rfl rfl), (xpre hev hz hA hP hD hS hR0 hap [] rfl)⟩ rfl rfl hl.1 rfl (lv_room (Nat.le_of_ble_eq_true rfl)) dX7_forge_53 ⟨Nat.le_of_ble_eq_true rfl, Nat.le_of_ble_eq_true rfl⟩) hP hD hS hA (fun w21 H locs h22 hP hD hS => ?_)
        obtain ⟨rk223, rfl, h22⟩ := h22
        try dsimp only at h22
        have hP : va_P E.1 vwCl [(w0, .inr (5, [.int nu, .int role, .int ver, .long unt, .ref oa, .int (nI oc), .ref qo, .ref tq, .ref dq, .ref ha, .int (nI pn), .int (nI (sn + 1)), .int rk223])), (h, .inr (6, [.ref ms, .ref sc, .ref sa, .int (nI l215)])), (ms, aB E 128 g16), (sc, aI E 64 gc17), (sa, aI E 8 ga18)] H := hP
        have hD : va_D A [(w0, .inr (5, [.int nu, .int role, .int ver, .long unt, .ref oa, .int (nI oc), .ref qo, .ref tq, .ref dq, .ref ha, .int (nI pn), .int (nI (sn + 1)), .int rk223])), (h, .inr (6, [.ref ms, .ref sc, .ref sa, .int (nI l215)])), (ms, aB E 128 g16), (sc, aI E 64 gc17), (sa, aI E 8 ga18)] := hD
        refine lv_iconst (v := 1) hx hb dX7_forge_56 (by decide) ?_
        refine xrz hx hb hr hlocks (by first | rfl | decide | exact b1_narrow _) hP hD hS ⟨(sn + 1), rk223, l215, g16, gc17, ga18, rfl, ?_⟩ dX7_forge_57
        exact Or.inl ⟨k, hk, rfl, by omega, rfl, rfl, fun q => absurd q kc19, fun _ => h22.1 rfl⟩
      · skip
        have kc19 : sv = (eight (shaL (bL (fs k) ++ rowB role ver unt oc fo fn fm tn fr fv dn fp ft fe pn fh))) := (lg_cmp_eq sv (eight (shaL (bL (fs k) ++ rowB role ver unt oc fo fn fm tn fr fv dn fp ft fe pn fh)))).mp c19
        refine lv_iconst (v := 1) hx hb dX7_forge_48 (by decide) ?_
        refine lv_goto (tgt := 53) hx hb dX7_forge_49 (by decide) ?_
        have hP := hP.sub (ws' := [(w0, .inr (5, [.int nu, .int role, .int ver, .long unt, .ref oa, .int (nI oc), .ref qo, .ref tq, .ref dq, .ref ha, .int (nI pn), .int (nI sn), .int rk]))] ++ [(h, .inr (6, [.ref ms, .ref sc, .ref sa, .int (nI l215)])), (ms, aB E 128 g16), (sc, aI E 64 gc17), (sa, aI E 8 ga18)]) [4, 0, 1, 2, 3] rfl
        have hD := hD.sub (ws' := [(w0, .inr (5, [.int nu, .int role, .int ver, .long unt, .ref oa, .int (nI oc), .ref qo, .ref tq, .ref dq, .ref ha, .int (nI pn), .int (nI sn), .int rk]))] ++ [(h, .inr (6, [.ref ms, .ref sc, .ref sa, .int (nI l215)])), (ms, aB E 128 g16), (sc, aI E 64 gc17), (sa, aI E 8 ga18)]) [4, 0, 1, 2, 3] (by decide) rfl
        refine xcv (va_runV (As := [.int (nI k), .int 1]) (rest := []) ⟨hx, hb, hml, hown, hts⟩ (kX4_addSignature l E w0 nu role ver unt oa oc qo tq dq ha pn sn rk (nI k) 1  H.size) (cwV 2 hts gX7_forge_X4_addSignature rfl rfl rfl (by decide +kernel) ⟨Nat.le_of_ble_eq_true rfl, Nat.le_of_ble_eq_true rfl⟩) ⟨CP.blind, (va_recv hev.1 hP.left (ci := 5) (q0 := 0) rfl rfl), (xpre hev hz hA hP hD hS hR0 hap [] rfl)⟩ rfl rfl hl.1 rfl (lv_room (Nat.le_of_ble_eq_true rfl)) dX7_forge_53 ⟨Nat.le_of_ble_eq_true rfl, Nat.le_of_ble_eq_true rfl⟩) hP hD hS hA (fun w25 H locs h26 hP hD hS => ?_)
        obtain ⟨rk227, rfl, h26⟩ := h26
        try dsimp only at h26
        have hP : va_P E.1 vwCl [(w0, .inr (5, [.int nu, .int role, .int ver, .long unt, .ref oa, .int (nI oc), .ref qo, .ref tq, .ref dq, .ref ha, .int (nI pn), .int (nI (sn + 1)), .int rk227])), (h, .inr (6, [.ref ms, .ref sc, .ref sa, .int (nI l215)])), (ms, aB E 128 g16), (sc, aI E 64 gc17), (sa, aI E 8 ga18)] H := hP
        have hD : va_D A [(w0, .inr (5, [.int nu, .int role, .int ver, .long unt, .ref oa, .int (nI oc), .ref qo, .ref tq, .ref dq, .ref ha, .int (nI pn), .int (nI (sn + 1)), .int rk227])), (h, .inr (6, [.ref ms, .ref sc, .ref sa, .int (nI l215)])), (ms, aB E 128 g16), (sc, aI E 64 gc17), (sa, aI E 8 ga18)] := hD
        refine lv_iconst (v := 1) hx hb dX7_forge_56 (by decide) ?_
        refine xrz hx hb hr hlocks (by first | rfl | decide | exact b1_narrow _) hP hD hS ⟨(sn + 1), rk227, l215, g16, gc17, ga18, rfl, ?_⟩ dX7_forge_57
        exact Or.inl ⟨k, hk, rfl, by omega, rfl, rfl, fun _ => h26.2 (by decide), fun q => absurd kc19 q⟩
    · skip
      have kc11 := b1_n.mp c11
      refine lv_iconst (v := 0) hx hb dX7_forge_31 (by decide) ?_
      refine xrz hx hb hr hlocks (by first | rfl | decide | exact b1_narrow _) hP hD hS ⟨sn, rk, ln, f, fc, fa, rfl, ?_⟩ dX7_forge_32
      exact Or.inr ⟨fun q => absurd q.2 (by omega), rfl, rfl, rfl⟩

abbrev pX7_brokenRuleN (E : xE) (x : Nat) (rg : Nat) (dr : Nat) (rs : Nat) (nr : Int32) (c0 : Nat) (h : Nat) (td : Nat) (cr : Nat) (rev : Int32) (sea : Int32) (ks : Nat) (ku : Nat) (kn : Nat) (fu : Nat → Int64) (t : Int64) (r : Int32) (w : va_W) : Prop := w = [] ∧ r = 1 ∧ (True)
set_option maxHeartbeats 4000000 in
set_option maxRecDepth 100000 in
theorem kX7_brokenRuleN (l : Launch) (E : xE) (x : Nat) (rg : Nat) (dr : Nat) (rs : Nat) (nr : Int32) (c0 : Nat) (h : Nat) (td : Nat) (cr : Nat) (rev : Int32) (sea : Int32) (ks : Nat) (ku : Nat) (kn : Nat) (fu : Nat → Int64) (t : Int64) (hkn : kn ≤ 20) : KT l yX7_brokenRule wsX7_brokenRule 1 26 0 0 E [] [(x, .inr (8, [.ref rg, .ref dr, .ref rs, .int nr, .ref c0, .ref h, .ref td])), (c0, .inr (1, [.ref cr, .int rev, .int sea])), (rg, .inr (3, [.ref ks, .ref ku, .int (nI kn)])), (ku, aJ E 20 fu)] [.ref x, .null, .long t] (QI E (pX7_brokenRuleN E x rg dr rs nr c0 h td cr rev sea ks ku kn fu t)) := by
  refine KT.start (cc := cX7_brokenRule) (maxL := 4) (ret := (some .int)) (by decide) rfl (Nat.le_of_ble_eq_true rfl) ?_
  intro p e s m below meth c A H hx hb hr hlocks hml hts hown hin hP hR0 hD hap hev hz hA hS ls hl
  have hl : lv_has ls 4 [(0, .ref x), (1, .null), (2, .long t)] := hl
  have hiX7 : ∀ w ∈ wsX70, w ∈ wsX7_brokenRule := by decide +kernel
  have hf12 := hts (.fieldLink RX7 12 "SignQuorum" "ring" "LSignQuorum$KeyRing;") (by decide +kernel)
  have hf36 := hts (.fieldLink RX7 36 "SignQuorum" "client" "LSignQuorum$Client;") (by decide +kernel)
  refine lv_aload_n hx hb dX7_brokenRule_0 rfl (lv_at hl 0 rfl) ?_
  refine va_get (D := E.1) (ci := 8) (v := .ref c0) (C := RX7) (T := TX7) (N := 7) hx hb hts hiX7 hown hev.1 (xro hR0 hap hS) 0 rfl rfl 4 (by decide) hf36 (fun _ h9 => h9) rfl dX7_brokenRule_1 ?_
  refine lv_aload_nN hx hb dX7_brokenRule_4 rfl (lv_at hl 1 rfl) ?_
  refine lv_lload_n hx hb dX7_brokenRule_5 rfl (lv_at hl 2 rfl) ?_
  refine lv_aload_n hx hb dX7_brokenRule_6 rfl (lv_at hl 0 rfl) ?_
  refine va_get (D := E.1) (ci := 8) (v := .ref rg) (C := RX7) (T := TX7) (N := 7) hx hb hts hiX7 hown hev.1 (xro hR0 hap hS) 0 rfl rfl 0 (by decide) hf12 (fun _ h9 => h9) rfl dX7_brokenRule_7 ?_
  refine lv_lload_n hx hb dX7_brokenRule_10 rfl (lv_at hl 2 rfl) ?_
  have hP := hP.sub (ws' := [] ++ []) [] rfl
  have hD := hD.sub (ws' := [] ++ []) [] (by decide) rfl
  refine xci (va_runV (As := [.long t]) (rest := [.long t, .null, .ref c0]) ⟨hx, hb, hml, hown, hts⟩ (kX2_unexpiredAt l E rg ks ku kn fu t (by first | assumption | omega) H.size) (cwV 1 hts gX7_brokenRule_X2_unexpiredAt rfl rfl rfl (by decide +kernel) ⟨Nat.le_of_ble_eq_true rfl, Nat.le_of_ble_eq_true rfl⟩) ⟨CP.blind, (va_recv hev.1 (xro hR0 hap hS) (ci := 3) (q0 := 2) rfl rfl), (xpre hev hz hA hP hD hS hR0 hap [2, 3] rfl)⟩ rfl rfl hl.1 rfl (lv_room (Nat.le_of_ble_eq_true rfl)) dX7_brokenRule_11 ⟨Nat.le_of_ble_eq_true rfl, Nat.le_of_ble_eq_true rfl⟩) hP hD hS hA (fun r1 w2 H locs h3 hP hD hS => ?_)
  obtain ⟨rfl, rfl, h3⟩ := h3
  try dsimp only at h3
  have hP : va_P E.1 vwCl [] H := hP
  have hD : va_D A [] := hD
  refine xtop (y := livM kn fu t) (rfl) ?_
  have hP := hP.sub (ws' := [] ++ []) [] rfl
  have hD := hD.sub (ws' := [] ++ []) [] (by decide) rfl
  refine xci (va_runV (As := [.null, .long t, .int (livM kn fu t)]) (rest := []) ⟨hx, hb, hml, hown, hts⟩ (kX0_firstBrokenRuleN l E c0 cr rev sea t (livM kn fu t)  H.size) (cwV 3 hts gX7_brokenRule_X0_firstBrokenRule rfl rfl rfl (by decide +kernel) ⟨Nat.le_of_ble_eq_true rfl, Nat.le_of_ble_eq_true rfl⟩) ⟨CP.blind, (va_recv hev.1 (xro hR0 hap hS) (ci := 1) (q0 := 1) rfl rfl), (xpre hev hz hA hP hD hS hR0 hap [] rfl)⟩ rfl rfl hl.1 rfl (lv_room (Nat.le_of_ble_eq_true rfl)) dX7_brokenRule_14 ⟨Nat.le_of_ble_eq_true rfl, Nat.le_of_ble_eq_true rfl⟩) hP hD hS hA (fun r4 w5 H locs h6 hP hD hS => ?_)
  obtain ⟨rfl, rfl, h6⟩ := h6
  try dsimp only at h6
  have hP : va_P E.1 vwCl [] H := hP
  have hD : va_D A [] := hD
  refine xri hx hb hr hlocks hP hD hS ⟨rfl, ?_, ?_⟩ dX7_brokenRule_17
  · rfl
  · trivial

abbrev pX7_brokenRule (E : xE) (x : Nat) (rg : Nat) (dr : Nat) (rs : Nat) (nr : Int32) (c0 : Nat) (h : Nat) (td : Nat) (cr : Nat) (rev : Int32) (sea : Int32) (ks : Nat) (ku : Nat) (kn : Nat) (fu : Nat → Int64) (ci : Nat → Option Nat) (N : Nat) (ra : Nat → Nat) (pr : Nat → RowP) (i : Nat) (t : Int64) (r : Int32) (w : va_W) : Prop := w = [] ∧ r = nI (fbr ci pr rev (livM kn fu t) t i) ∧ (True)
set_option maxHeartbeats 4000000 in
set_option maxRecDepth 100000 in
theorem kX7_brokenRule (l : Launch) (E : xE) (x : Nat) (rg : Nat) (dr : Nat) (rs : Nat) (nr : Int32) (c0 : Nat) (h : Nat) (td : Nat) (cr : Nat) (rev : Int32) (sea : Int32) (ks : Nat) (ku : Nat) (kn : Nat) (fu : Nat → Int64) (ci : Nat → Option Nat) (N : Nat) (ra : Nat → Nat) (pr : Nat → RowP) (i : Nat) (t : Int64) (hkn : kn ≤ 20) (hok : ∀ i, i < N → rOk (pr i)) (hci : ∀ j i, ci j = some i → i < N) (hi : i < N) : KT l yX7_brokenRule wsX7_brokenRule 5 114 0 0 E [] ([(x, .inr (8, [.ref rg, .ref dr, .ref rs, .int nr, .ref c0, .ref h, .ref td])), (c0, .inr (1, [.ref cr, .int rev, .int sea])), (cr, aR E 10 (fun j => (ci j).map ra)), (rg, .inr (3, [.ref ks, .ref ku, .int (nI kn)])), (ku, aJ E 20 fu)] ++ rowsW E N ra pr) [.ref x, .ref (ra i), .long t] (QI E (pX7_brokenRule E x rg dr rs nr c0 h td cr rev sea ks ku kn fu ci N ra pr i t)) := by
  refine KT.start (cc := cX7_brokenRule) (maxL := 4) (ret := (some .int)) (by decide) rfl (Nat.le_of_ble_eq_true rfl) ?_
  intro p e s m below meth c A H hx hb hr hlocks hml hts hown hin hP hR0 hD hap hev hz hA hS ls hl
  have hl : lv_has ls 4 [(0, .ref x), (1, .ref (ra i)), (2, .long t)] := hl
  have hiX7 : ∀ w ∈ wsX70, w ∈ wsX7_brokenRule := by decide +kernel
  have hf12 := hts (.fieldLink RX7 12 "SignQuorum" "ring" "LSignQuorum$KeyRing;") (by decide +kernel)
  have hf36 := hts (.fieldLink RX7 36 "SignQuorum" "client" "LSignQuorum$Client;") (by decide +kernel)
  refine lv_aload_n hx hb dX7_brokenRule_0 rfl (lv_at hl 0 rfl) ?_
  refine va_get (D := E.1) (ci := 8) (v := .ref c0) (C := RX7) (T := TX7) (N := 7) hx hb hts hiX7 hown hev.1 (xro hR0 hap hS) 0 rfl rfl 4 (by decide) hf36 (fun _ h9 => h9) rfl dX7_brokenRule_1 ?_
  refine lv_aload_n hx hb dX7_brokenRule_4 rfl (lv_at hl 1 rfl) ?_
  refine lv_lload_n hx hb dX7_brokenRule_5 rfl (lv_at hl 2 rfl) ?_
  refine lv_aload_n hx hb dX7_brokenRule_6 rfl (lv_at hl 0 rfl) ?_
  refine va_get (D := E.1) (ci := 8) (v := .ref rg) (C := RX7) (T := TX7) (N := 7) hx hb hts hiX7 hown hev.1 (xro hR0 hap hS) 0 rfl rfl 0 (by decide) hf12 (fun _ h9 => h9) rfl dX7_brokenRule_7 ?_
  refine lv_lload_n hx hb dX7_brokenRule_10 rfl (lv_at hl 2 rfl) ?_
  have hP := hP.sub (ws' := [] ++ []) [] rfl
  have hD := hD.sub (ws' := [] ++ []) [] (by decide) rfl
  refine xci (va_runV (As := [.long t]) (rest := [.long t, .ref (ra i), .ref c0]) ⟨hx, hb, hml, hown, hts⟩ (kX2_unexpiredAt l E rg ks ku kn fu t (by first | assumption | omega) H.size) (cwV 1 hts gX7_brokenRule_X2_unexpiredAt rfl rfl rfl (by decide +kernel) ⟨Nat.le_of_ble_eq_true rfl, Nat.le_of_ble_eq_true rfl⟩) ⟨CP.blind, (va_recv hev.1 (xro hR0 hap hS) (ci := 3) (q0 := 3) rfl rfl), (xpre hev hz hA hP hD hS hR0 hap [3, 4] rfl)⟩ rfl rfl hl.1 rfl (lv_room (Nat.le_of_ble_eq_true rfl)) dX7_brokenRule_11 ⟨Nat.le_of_ble_eq_true rfl, Nat.le_of_ble_eq_true rfl⟩) hP hD hS hA (fun r1 w2 H locs h3 hP hD hS => ?_)
  obtain ⟨rfl, rfl, h3⟩ := h3
  try dsimp only at h3
  have hP : va_P E.1 vwCl [] H := hP
  have hD : va_D A [] := hD
  refine xtop (y := livM kn fu t) (rfl) ?_
  have hP := hP.sub (ws' := [] ++ []) [] rfl
  have hD := hD.sub (ws' := [] ++ []) [] (by decide) rfl
  refine xci (va_runV (As := [.ref (ra i), .long t, .int (livM kn fu t)]) (rest := []) ⟨hx, hb, hml, hown, hts⟩ (kX0_firstBrokenRule l E c0 cr rev sea ci N ra pr i t (livM kn fu t) (by first | assumption | omega) (by first | assumption | omega) (by first | assumption | omega) H.size) (cwV 3 hts gX7_brokenRule_X0_firstBrokenRule rfl rfl rfl (by decide +kernel) ⟨Nat.le_of_ble_eq_true rfl, Nat.le_of_ble_eq_true rfl⟩) ⟨CP.blind, (va_recv hev.1 (xro hR0 hap hS) (ci := 1) (q0 := 1) rfl rfl), (xpreT (X := rowsW E N ra pr) hev hz hA hP hD hS hR0 hap [1, 2] rfl (fun q9 h9 => List.mem_append_right _ h9))⟩ rfl rfl hl.1 rfl (lv_room (Nat.le_of_ble_eq_true rfl)) dX7_brokenRule_14 ⟨Nat.le_of_ble_eq_true rfl, Nat.le_of_ble_eq_true rfl⟩) hP hD hS hA (fun r4 w5 H locs h6 hP hD hS => ?_)
  obtain ⟨rfl, rfl, h6⟩ := h6
  try dsimp only at h6
  have hP : va_P E.1 vwCl [] H := hP
  have hD : va_D A [] := hD
  refine xri hx hb hr hlocks hP hD hS ⟨rfl, ?_, ?_⟩ dX7_brokenRule_17
  · rfl
  · trivial

abbrev pX7_verifyN (E : xE) (x : Nat) (rg : Nat) (dr : Nat) (rs : Nat) (nr : Int32) (c0 : Nat) (h : Nat) (td : Nat) (rf : Nat → Option Nat) (cr : Nat) (rev : Int32) (sea : Int32) (ks : Nat) (ku : Nat) (kn : Nat) (fu : Nat → Int64) (y : Int32) (t : Int64) (r : Int32) (w : va_W) : Prop := w = [] ∧ r = -1 ∧ (True)
set_option maxHeartbeats 4000000 in
set_option maxRecDepth 100000 in
theorem kX7_verifyN (l : Launch) (E : xE) (x : Nat) (rg : Nat) (dr : Nat) (rs : Nat) (nr : Int32) (c0 : Nat) (h : Nat) (td : Nat) (rf : Nat → Option Nat) (cr : Nat) (rev : Int32) (sea : Int32) (ks : Nat) (ku : Nat) (kn : Nat) (fu : Nat → Int64) (y : Int32) (t : Int64) (hrx : rAt rf y = none) (hkn : kn ≤ 20) : KT l yX7_verify wsX7_verify 2 49 0 0 E [] [(x, .inr (8, [.ref rg, .ref dr, .ref rs, .int nr, .ref c0, .ref h, .ref td])), (rs, aR E 24 rf), (c0, .inr (1, [.ref cr, .int rev, .int sea])), (rg, .inr (3, [.ref ks, .ref ku, .int (nI kn)])), (ku, aJ E 20 fu)] [.ref x, .int y, .long t] (QI E (pX7_verifyN E x rg dr rs nr c0 h td rf cr rev sea ks ku kn fu y t)) := by
  refine KT.start (cc := cX7_verify) (maxL := 5) (ret := (some .int)) (by decide) rfl (Nat.le_of_ble_eq_true rfl) ?_
  intro p e s m below meth c A H hx hb hr hlocks hml hts hown hin hP hR0 hD hap hev hz hA hS ls hl
  have hl : lv_has ls 5 [(0, .ref x), (1, .int y), (2, .long t)] := hl
  refine lv_aload_n hx hb dX7_verify_0 rfl (lv_at hl 0 rfl) ?_
  refine lv_aload_n hx hb dX7_verify_1 rfl (lv_at hl 0 rfl) ?_
  refine lv_iload_n hx hb dX7_verify_2 rfl (lv_at hl 1 rfl) ?_
  have hP := hP.sub (ws' := [] ++ []) [] rfl
  have hD := hD.sub (ws' := [] ++ []) [] (by decide) rfl
  refine xcr (va_runV (As := [.int y]) (rest := [.ref x]) ⟨hx, hb, hml, hown, hts⟩ (kX7_rowAt l E x rg dr rs nr c0 h td rf y  H.size) (cwV 1 hts gX7_verify_X7_rowAt rfl rfl rfl (by decide +kernel) ⟨Nat.le_of_ble_eq_true rfl, Nat.le_of_ble_eq_true rfl⟩) ⟨CP.blind, (va_recv hev.1 (xro hR0 hap hS) (ci := 8) (q0 := 0) rfl rfl), (xpre hev hz hA hP hD hS hR0 hap [0, 1] rfl)⟩ rfl rfl hl.1 rfl (lv_room (Nat.le_of_ble_eq_true rfl)) dX7_verify_3 ⟨Nat.le_of_ble_eq_true rfl, Nat.le_of_ble_eq_true rfl⟩) hP hD hS hA (fun r1 w2 H locs h3 hP hD hS => ?_)
  obtain ⟨rfl, rfl, h3⟩ := h3
  try dsimp only at h3
  have hP : va_P E.1 vwCl [] H := hP
  have hD : va_D A [] := hD
  rw [hrx]
  refine lv_lload_n hx hb dX7_verify_6 rfl (lv_at hl 2 rfl) ?_
  have hP := hP.sub (ws' := [] ++ []) [] rfl
  have hD := hD.sub (ws' := [] ++ []) [] (by decide) rfl
  refine xci (va_runV (As := [.null, .long t]) (rest := []) ⟨hx, hb, hml, hown, hts⟩ (kX7_brokenRuleN l E x rg dr rs nr c0 h td cr rev sea ks ku kn fu t (by first | assumption | omega) H.size) (cwV 2 hts gX7_verify_X7_brokenRule rfl rfl rfl (by decide +kernel) ⟨Nat.le_of_ble_eq_true rfl, Nat.le_of_ble_eq_true rfl⟩) ⟨CP.blind, (va_recv hev.1 (xro hR0 hap hS) (ci := 8) (q0 := 0) rfl rfl), (xpre hev hz hA hP hD hS hR0 hap [0, 2, 3, 4] rfl)⟩ rfl rfl hl.1 rfl (lv_room (Nat.le_of_ble_eq_true rfl)) dX7_verify_7 ⟨Nat.le_of_ble_eq_true rfl, Nat.le_of_ble_eq_true rfl⟩) hP hD hS hA (fun r4 w5 H locs h6 hP hD hS => ?_)
  obtain ⟨rfl, rfl, h6⟩ := h6
  try dsimp only at h6
  have hP : va_P E.1 vwCl [] H := hP
  have hD : va_D A [] := hD
  refine lv_istore (lv' := [(4, .int 1), (0, .ref x), (1, .int y), (2, .long t)]) hx hb dX7_verify_10 hl (by decide) rfl (fun ls hl => ?_)
  refine lv_iload hx hb dX7_verify_12 (lv_at hl 0 rfl) ?_
  refine lv_if_ne (tgt := 21) hx hb dX7_verify_14 (by decide) (fun c7 => ?_) (fun c7 => absurd c7 (by decide))
  refine lv_iload hx hb dX7_verify_21 (lv_at hl 0 rfl) ?_
  refine lv_ineg hx hb dX7_verify_23 ?_
  refine xri hx hb hr hlocks hP hD hS ⟨rfl, ?_, ?_⟩ dX7_verify_24
  · rfl
  · trivial

abbrev pX7_verify (E : xE) (x : Nat) (rg : Nat) (dr : Nat) (rs : Nat) (nr : Int32) (c0 : Nat) (h : Nat) (td : Nat) (rf : Nat → Option Nat) (cr : Nat) (rev : Int32) (sea : Int32) (ks : Nat) (ku : Nat) (kn : Nat) (fu : Nat → Int64) (ci : Nat → Option Nat) (N : Nat) (ra : Nat → Nat) (pr : Nat → RowP) (i : Nat) (y : Int32) (t : Int64) (r : Int32) (w : va_W) : Prop := w = [] ∧ ((fbr ci pr rev (livM kn fu t) t i = 0 ∧ r = 1) ∨ (¬ fbr ci pr rev (livM kn fu t) t i = 0 ∧ r = -(nI (fbr ci pr rev (livM kn fu t) t i))))
set_option maxHeartbeats 4000000 in
set_option maxRecDepth 100000 in
theorem kX7_verify (l : Launch) (E : xE) (x : Nat) (rg : Nat) (dr : Nat) (rs : Nat) (nr : Int32) (c0 : Nat) (h : Nat) (td : Nat) (rf : Nat → Option Nat) (cr : Nat) (rev : Int32) (sea : Int32) (ks : Nat) (ku : Nat) (kn : Nat) (fu : Nat → Int64) (ci : Nat → Option Nat) (N : Nat) (ra : Nat → Nat) (pr : Nat → RowP) (i : Nat) (y : Int32) (t : Int64) (hrx : rAt rf y = some (ra i)) (hkn : kn ≤ 20) (hok : ∀ i, i < N → rOk (pr i)) (hci : ∀ j i, ci j = some i → i < N) (hi : i < N) : KT l yX7_verify wsX7_verify 6 137 0 0 E [] ([(x, .inr (8, [.ref rg, .ref dr, .ref rs, .int nr, .ref c0, .ref h, .ref td])), (rs, aR E 24 rf), (c0, .inr (1, [.ref cr, .int rev, .int sea])), (cr, aR E 10 (fun j => (ci j).map ra)), (rg, .inr (3, [.ref ks, .ref ku, .int (nI kn)])), (ku, aJ E 20 fu)] ++ rowsW E N ra pr) [.ref x, .int y, .long t] (QI E (pX7_verify E x rg dr rs nr c0 h td rf cr rev sea ks ku kn fu ci N ra pr i y t)) := by
  refine KT.start (cc := cX7_verify) (maxL := 5) (ret := (some .int)) (by decide) rfl (Nat.le_of_ble_eq_true rfl) ?_
  intro p e s m below meth c A H hx hb hr hlocks hml hts hown hin hP hR0 hD hap hev hz hA hS ls hl
  have hl : lv_has ls 5 [(0, .ref x), (1, .int y), (2, .long t)] := hl
  have hfb := fbr_le ci pr rev (livM kn fu t) t i
  refine lv_aload_n hx hb dX7_verify_0 rfl (lv_at hl 0 rfl) ?_
  refine lv_aload_n hx hb dX7_verify_1 rfl (lv_at hl 0 rfl) ?_
  refine lv_iload_n hx hb dX7_verify_2 rfl (lv_at hl 1 rfl) ?_
  have hP := hP.sub (ws' := [] ++ []) [] rfl
  have hD := hD.sub (ws' := [] ++ []) [] (by decide) rfl
  refine xcr (va_runV (As := [.int y]) (rest := [.ref x]) ⟨hx, hb, hml, hown, hts⟩ (kX7_rowAt l E x rg dr rs nr c0 h td rf y  H.size) (cwV 1 hts gX7_verify_X7_rowAt rfl rfl rfl (by decide +kernel) ⟨Nat.le_of_ble_eq_true rfl, Nat.le_of_ble_eq_true rfl⟩) ⟨CP.blind, (va_recv hev.1 (xro hR0 hap hS) (ci := 8) (q0 := 0) rfl rfl), (xpre hev hz hA hP hD hS hR0 hap [0, 1] rfl)⟩ rfl rfl hl.1 rfl (lv_room (Nat.le_of_ble_eq_true rfl)) dX7_verify_3 ⟨Nat.le_of_ble_eq_true rfl, Nat.le_of_ble_eq_true rfl⟩) hP hD hS hA (fun r1 w2 H locs h3 hP hD hS => ?_)
  obtain ⟨rfl, rfl, h3⟩ := h3
  try dsimp only at h3
  have hP : va_P E.1 vwCl [] H := hP
  have hD : va_D A [] := hD
  rw [hrx]
  refine lv_lload_n hx hb dX7_verify_6 rfl (lv_at hl 2 rfl) ?_
  have hP := hP.sub (ws' := [] ++ []) [] rfl
  have hD := hD.sub (ws' := [] ++ []) [] (by decide) rfl
  refine xci (va_runV (As := [.ref (ra i), .long t]) (rest := []) ⟨hx, hb, hml, hown, hts⟩ (kX7_brokenRule l E x rg dr rs nr c0 h td cr rev sea ks ku kn fu ci N ra pr i t (by first | assumption | omega) (by first | assumption | omega) (by first | assumption | omega) (by first | assumption | omega) H.size) (cwV 2 hts gX7_verify_X7_brokenRule rfl rfl rfl (by decide +kernel) ⟨Nat.le_of_ble_eq_true rfl, Nat.le_of_ble_eq_true rfl⟩) ⟨CP.blind, (va_recv hev.1 (xro hR0 hap hS) (ci := 8) (q0 := 0) rfl rfl), (xpreT (X := rowsW E N ra pr) hev hz hA hP hD hS hR0 hap [0, 2, 3, 4, 5] rfl (fun q9 h9 => List.mem_append_right _ h9))⟩ rfl rfl hl.1 rfl (lv_room (Nat.le_of_ble_eq_true rfl)) dX7_verify_7 ⟨Nat.le_of_ble_eq_true rfl, Nat.le_of_ble_eq_true rfl⟩) hP hD hS hA (fun r4 w5 H locs h6 hP hD hS => ?_)
  obtain ⟨rfl, rfl, h6⟩ := h6
  try dsimp only at h6
  have hP : va_P E.1 vwCl [] H := hP
  have hD : va_D A [] := hD
  refine lv_istore (lv' := [(4, .int (nI (fbr ci pr rev (livM kn fu t) t i))), (0, .ref x), (1, .int y), (2, .long t)]) hx hb dX7_verify_10 hl (by decide) rfl (fun ls hl => ?_)
  refine lv_iload hx hb dX7_verify_12 (lv_at hl 0 rfl) ?_
  refine lv_if_ne (tgt := 21) hx hb dX7_verify_14 (by decide) (fun c7 => ?_) (fun c7 => ?_)
  · skip
    have kc7 : ¬ (fbr ci pr rev (livM kn fu t) t i) = 0 := fun h9 => c7 ((nI_eq (a := (fbr ci pr rev (livM kn fu t) t i)) (b := 0) (by omega) (by omega)).mpr h9)
    refine lv_iload hx hb dX7_verify_21 (lv_at hl 0 rfl) ?_
    refine lv_ineg hx hb dX7_verify_23 ?_
    refine xri hx hb hr hlocks hP hD hS ⟨rfl, ?_⟩ dX7_verify_24
    exact Or.inr ⟨by assumption, by first | rfl | (subst_vars; rfl)⟩
  · skip
    have kc7 : (fbr ci pr rev (livM kn fu t) t i) = 0 := (nI_eq (a := (fbr ci pr rev (livM kn fu t) t i)) (b := 0) (by omega) (by omega)).mp c7
    refine lv_iconst (v := 1) hx hb dX7_verify_17 (by decide) ?_
    refine lv_goto (tgt := 24) hx hb dX7_verify_18 (by decide) ?_
    refine xri hx hb hr hlocks hP hD hS ⟨rfl, ?_⟩ dX7_verify_24
    exact Or.inl ⟨by assumption, rfl⟩

abbrev pX0_take2 (E : xE) (c0 : Nat) (cr : Nat) (rev : Int32) (sea : Int32) (cu : Nat → Option Nat) (w0 : Nat) (nu : Int32) (j : Nat) (ver : Int32) (unt : Int64) (oa : Nat) (oc : Nat) (qo : Nat) (tq : Nat) (dq : Nat) (ha : Nat) (pn : Nat) (sg : Int32) (rk : Int32) (w : va_W) : Prop := ∃ (cu2 : Nat → Option Nat), w = [(cr, aR E 10 cu2)] ∧ (cu2 = va_up cu j (some w0))
set_option maxHeartbeats 4000000 in
set_option maxRecDepth 100000 in
theorem kX0_take2 (l : Launch) (E : xE) (c0 : Nat) (cr : Nat) (rev : Int32) (sea : Int32) (cu : Nat → Option Nat) (w0 : Nat) (nu : Int32) (j : Nat) (ver : Int32) (unt : Int64) (oa : Nat) (oc : Nat) (qo : Nat) (tq : Nat) (dq : Nat) (ha : Nat) (pn : Nat) (sg : Int32) (rk : Int32) (hj : j < 10) : KT l yX0_take wsX0_take 1 20 0 0 E [(cr, aR E 10 cu)] [(c0, .inr (1, [.ref cr, .int rev, .int sea])), (w0, .inr (5, [.int nu, .int (nI j), .int ver, .long unt, .ref oa, .int (nI oc), .ref qo, .ref tq, .ref dq, .ref ha, .int (nI pn), .int sg, .int rk]))] [.ref c0, .ref w0] (QV E (pX0_take2 E c0 cr rev sea cu w0 nu j ver unt oa oc qo tq dq ha pn sg rk)) := by
  refine KT.start (cc := cX0_take) (maxL := 2) (ret := none) (by decide) rfl (Nat.le_of_ble_eq_true rfl) ?_
  intro p e s m below meth c A H hx hb hr hlocks hml hts hown hin hP hR0 hD hap hev hz hA hS ls hl
  have hl : lv_has ls 2 [(0, .ref c0), (1, .ref w0)] := hl
  have hiX0 : ∀ w ∈ wsX00, w ∈ wsX0_take := by decide +kernel
  have hiX4 : ∀ w ∈ wsX40, w ∈ wsX0_take := by decide +kernel
  have hf11 := hts (.fieldLink RX0 11 "SignQuorum$Client" "currentRows" "[LSignQuorum$Row;") (by decide +kernel)
  have hiniX7 := hts (.initialized RX7) (by decide +kernel)
  have hstX7_isRole := hts (.static yX7_isRole) (by decide +kernel)
  refine lv_aload_n hx hb dX0_take_0 rfl (lv_at hl 1 rfl) ?_
  refine lv_ifnull hx hb dX0_take_1 ?_
  refine lv_aload_n hx hb dX0_take_4 rfl (lv_at hl 1 rfl) ?_
  refine va_getN (D := E.1) (ci := 5) (v := .int (nI j)) (C := RX4) (T := TX4) (N := 13) hx hb hts hiX4 hown hev.1 (xro hR0 hap hS) 1 rfl rfl 1 (by decide) (xNF7 hev.2.1) (fun _ h9 => h9) rfl dX0_take_5 ?_
  have hP := hP.sub (ws' := [] ++ [(cr, aR E 10 cu)]) [0] rfl
  have hD := hD.sub (ws' := [] ++ [(cr, aR E 10 cu)]) [0] (by decide) rfl
  refine xci (va_runSN (As := [.int (nI j)]) (rest := []) ⟨hx, hb, hml, hown, hts⟩ (kX7_isRole l E (nI j)  H.size) ⟨va_cnB 1 hts gX0_take_X7_isRole_n24 rfl rfl rfl (xNM5 hev.2.1) hiniX7 (by decide +kernel) ⟨Nat.le_of_ble_eq_true rfl, Nat.le_of_ble_eq_true rfl⟩, hstX7_isRole, trivial⟩ ⟨CP.blind, (xpre hev hz hA hP hD hS hR0 hap [] rfl)⟩ rfl rfl hl.1 rfl (lv_room (Nat.le_of_ble_eq_true rfl)) dX0_take_8 ⟨Nat.le_of_ble_eq_true rfl, Nat.le_of_ble_eq_true rfl⟩) hP hD hS hA (fun r1 w2 H locs h3 hP hD hS => ?_)
  obtain ⟨rfl, rfl, h3⟩ := h3
  try dsimp only at h3
  have hP : va_P E.1 vwCl [(cr, aR E 10 cu)] H := hP
  have hD : va_D A [(cr, aR E 10 cu)] := hD
  refine lv_if_eq (tgt := 24) hx hb dX0_take_11 (by decide) (fun c4 => absurd c4 (b1_n.mpr (⟨j, hj, rfl⟩))) (fun c4 => ?_)
  refine lv_aload_n hx hb dX0_take_14 rfl (lv_at hl 0 rfl) ?_
  refine va_get (D := E.1) (ci := 1) (v := .ref cr) (C := RX0) (T := TX0) (N := 3) hx hb hts hiX0 hown hev.1 (xro hR0 hap hS) 0 rfl rfl 0 (by decide) hf11 (fun _ h9 => h9) rfl dX0_take_15 ?_
  refine lv_aload_n hx hb dX0_take_18 rfl (lv_at hl 1 rfl) ?_
  refine va_getN (D := E.1) (ci := 5) (v := .int (nI j)) (C := RX4) (T := TX4) (N := 13) hx hb hts hiX4 hown hev.1 (xro hR0 hap hS) 1 rfl rfl 1 (by decide) (xNF7 hev.2.1) (fun _ h9 => h9) rfl dX0_take_19 ?_
  refine lv_aload_n hx hb dX0_take_22 rfl (lv_at hl 1 rfl) ?_
  refine xastr (k := j) hx hb hev.1 hP hD hS 0 4 rfl rfl (va_recv hev.1 (xro hR0 hap hS) (ci := 5) (q0 := 1) rfl rfl) (by omega) (by decide) dX0_take_23 (fun H locs hP hD hS => ?_)
  obtain ⟨f5, ef5⟩ : ∃ y9_ : Nat → Option Nat, y9_ = va_up cu j (some w0) := ⟨_, rfl⟩
  rw [← ef5] at hP hD
  have hP : va_P E.1 vwCl [(cr, aR E 10 f5)] H := hP
  have hD : va_D A [(cr, aR E 10 f5)] := hD
  refine xrv hx hb hr hlocks hP hD hS ⟨f5, rfl, ?_⟩ dX0_take_24
  assumption

abbrev pX7_updateN (E : xE) (x : Nat) (rg : Nat) (dr : Nat) (rs : Nat) (nr : Int32) (c0 : Nat) (h : Nat) (td : Nat) (rf : Nat → Option Nat) (cr : Nat) (rev : Int32) (sea : Int32) (ks : Nat) (ku : Nat) (kn : Nat) (fu : Nat → Int64) (y : Int32) (t : Int64) (r : Int32) (w : va_W) : Prop := w = [] ∧ r = -1 ∧ (True)
set_option maxHeartbeats 4000000 in
set_option maxRecDepth 100000 in
theorem kX7_updateN (l : Launch) (E : xE) (x : Nat) (rg : Nat) (dr : Nat) (rs : Nat) (nr : Int32) (c0 : Nat) (h : Nat) (td : Nat) (rf : Nat → Option Nat) (cr : Nat) (rev : Int32) (sea : Int32) (ks : Nat) (ku : Nat) (kn : Nat) (fu : Nat → Int64) (y : Int32) (t : Int64) (hrx : rAt rf y = none) (hkn : kn ≤ 20) : KT l yX7_update wsX7_update 2 49 0 0 E [] [(x, .inr (8, [.ref rg, .ref dr, .ref rs, .int nr, .ref c0, .ref h, .ref td])), (rs, aR E 24 rf), (c0, .inr (1, [.ref cr, .int rev, .int sea])), (rg, .inr (3, [.ref ks, .ref ku, .int (nI kn)])), (ku, aJ E 20 fu)] [.ref x, .int y, .long t] (QI E (pX7_updateN E x rg dr rs nr c0 h td rf cr rev sea ks ku kn fu y t)) := by
  refine KT.start (cc := cX7_update) (maxL := 6) (ret := (some .int)) (by decide) rfl (Nat.le_of_ble_eq_true rfl) ?_
  intro p e s m below meth c A H hx hb hr hlocks hml hts hown hin hP hR0 hD hap hev hz hA hS ls hl
  have hl : lv_has ls 6 [(0, .ref x), (1, .int y), (2, .long t)] := hl
  refine lv_aload_n hx hb dX7_update_0 rfl (lv_at hl 0 rfl) ?_
  refine lv_iload_n hx hb dX7_update_1 rfl (lv_at hl 1 rfl) ?_
  have hP := hP.sub (ws' := [] ++ []) [] rfl
  have hD := hD.sub (ws' := [] ++ []) [] (by decide) rfl
  refine xcr (va_runV (As := [.int y]) (rest := []) ⟨hx, hb, hml, hown, hts⟩ (kX7_rowAt l E x rg dr rs nr c0 h td rf y  H.size) (cwV 1 hts gX7_update_X7_rowAt rfl rfl rfl (by decide +kernel) ⟨Nat.le_of_ble_eq_true rfl, Nat.le_of_ble_eq_true rfl⟩) ⟨CP.blind, (va_recv hev.1 (xro hR0 hap hS) (ci := 8) (q0 := 0) rfl rfl), (xpre hev hz hA hP hD hS hR0 hap [0, 1] rfl)⟩ rfl rfl hl.1 rfl (lv_room (Nat.le_of_ble_eq_true rfl)) dX7_update_2 ⟨Nat.le_of_ble_eq_true rfl, Nat.le_of_ble_eq_true rfl⟩) hP hD hS hA (fun r1 w2 H locs h3 hP hD hS => ?_)
  obtain ⟨rfl, rfl, h3⟩ := h3
  try dsimp only at h3
  have hP : va_P E.1 vwCl [] H := hP
  have hD : va_D A [] := hD
  rw [hrx]
  refine lv_astoreN (lv' := [(4, .null), (0, .ref x), (1, .int y), (2, .long t)]) hx hb dX7_update_5 hl (by decide) rfl (fun ls hl => ?_)
  refine lv_aload_n hx hb dX7_update_7 rfl (lv_at hl 1 rfl) ?_
  refine lv_aloadN hx hb dX7_update_8 (lv_at hl 0 rfl) ?_
  refine lv_lload_n hx hb dX7_update_10 rfl (lv_at hl 3 rfl) ?_
  have hP := hP.sub (ws' := [] ++ []) [] rfl
  have hD := hD.sub (ws' := [] ++ []) [] (by decide) rfl
  refine xci (va_runV (As := [.null, .long t]) (rest := []) ⟨hx, hb, hml, hown, hts⟩ (kX7_brokenRuleN l E x rg dr rs nr c0 h td cr rev sea ks ku kn fu t (by first | assumption | omega) H.size) (cwV 2 hts gX7_update_X7_brokenRule rfl rfl rfl (by decide +kernel) ⟨Nat.le_of_ble_eq_true rfl, Nat.le_of_ble_eq_true rfl⟩) ⟨CP.blind, (va_recv hev.1 (xro hR0 hap hS) (ci := 8) (q0 := 0) rfl rfl), (xpre hev hz hA hP hD hS hR0 hap [0, 2, 3, 4] rfl)⟩ rfl rfl hl.1 rfl (lv_room (Nat.le_of_ble_eq_true rfl)) dX7_update_11 ⟨Nat.le_of_ble_eq_true rfl, Nat.le_of_ble_eq_true rfl⟩) hP hD hS hA (fun r4 w5 H locs h6 hP hD hS => ?_)
  obtain ⟨rfl, rfl, h6⟩ := h6
  try dsimp only at h6
  have hP : va_P E.1 vwCl [] H := hP
  have hD : va_D A [] := hD
  refine lv_istore (lv' := [(5, .int 1), (4, .null), (0, .ref x), (1, .int y), (2, .long t)]) hx hb dX7_update_14 hl (by decide) rfl (fun ls hl => ?_)
  refine lv_iload hx hb dX7_update_16 (lv_at hl 0 rfl) ?_
  refine lv_if_eq (tgt := 25) hx hb dX7_update_18 (by decide) (fun c7 => absurd c7 (by decide)) (fun c7 => ?_)
  refine lv_iload hx hb dX7_update_21 (lv_at hl 0 rfl) ?_
  refine lv_ineg hx hb dX7_update_23 ?_
  refine xri hx hb hr hlocks hP hD hS ⟨rfl, ?_, ?_⟩ dX7_update_24
  · rfl
  · trivial

abbrev pX7_update (E : xE) (x : Nat) (rg : Nat) (dr : Nat) (rs : Nat) (nr : Int32) (c0 : Nat) (h : Nat) (td : Nat) (rf : Nat → Option Nat) (cr : Nat) (rev : Int32) (sea : Int32) (ks : Nat) (ku : Nat) (kn : Nat) (fu : Nat → Int64) (ci : Nat → Option Nat) (N : Nat) (ra : Nat → Nat) (pr : Nat → RowP) (i : Nat) (y : Int32) (t : Int64) (r : Int32) (w : va_W) : Prop := ∃ (cu2 : Nat → Option Nat), w = [(cr, aR E 10 cu2)] ∧ ((fbr ci pr rev (livM kn fu t) t i = 0 ∧ r = 1 ∧ cu2 = va_up (fun j => (ci j).map ra) ((pr i).1 17) (some (ra i))) ∨ (¬ fbr ci pr rev (livM kn fu t) t i = 0 ∧ r = -(nI (fbr ci pr rev (livM kn fu t) t i)) ∧ cu2 = fun j => (ci j).map ra))
set_option maxHeartbeats 4000000 in
set_option maxRecDepth 100000 in
theorem kX7_update (l : Launch) (E : xE) (x : Nat) (rg : Nat) (dr : Nat) (rs : Nat) (nr : Int32) (c0 : Nat) (h : Nat) (td : Nat) (rf : Nat → Option Nat) (cr : Nat) (rev : Int32) (sea : Int32) (ks : Nat) (ku : Nat) (kn : Nat) (fu : Nat → Int64) (ci : Nat → Option Nat) (N : Nat) (ra : Nat → Nat) (pr : Nat → RowP) (i : Nat) (y : Int32) (t : Int64) (hrx : rAt rf y = some (ra i)) (hkn : kn ≤ 20) (hok : ∀ i, i < N → rOk (pr i)) (hci : ∀ j i, ci j = some i → i < N) (hi : i < N) : KT l yX7_update wsX7_update 6 137 0 0 E [(cr, aR E 10 (fun j => (ci j).map ra))] ([(x, .inr (8, [.ref rg, .ref dr, .ref rs, .int nr, .ref c0, .ref h, .ref td])), (rs, aR E 24 rf), (c0, .inr (1, [.ref cr, .int rev, .int sea])), (rg, .inr (3, [.ref ks, .ref ku, .int (nI kn)])), (ku, aJ E 20 fu)] ++ rowsW E N ra pr) [.ref x, .int y, .long t] (QI E (pX7_update E x rg dr rs nr c0 h td rf cr rev sea ks ku kn fu ci N ra pr i y t)) := by
  refine KT.start (cc := cX7_update) (maxL := 6) (ret := (some .int)) (by decide) rfl (Nat.le_of_ble_eq_true rfl) ?_
  intro p e s m below meth c A H hx hb hr hlocks hml hts hown hin hP hR0 hD hap hev hz hA hS ls hl
  have hl : lv_has ls 6 [(0, .ref x), (1, .int y), (2, .long t)] := hl
  have hiX7 : ∀ w ∈ wsX70, w ∈ wsX7_update := by decide +kernel
  have hf36 := hts (.fieldLink RX7 36 "SignQuorum" "client" "LSignQuorum$Client;") (by decide +kernel)
  have hfb := fbr_le ci pr rev (livM kn fu t) t i
  refine lv_aload_n hx hb dX7_update_0 rfl (lv_at hl 0 rfl) ?_
  refine lv_iload_n hx hb dX7_update_1 rfl (lv_at hl 1 rfl) ?_
  have hP := hP.sub (ws' := [] ++ [(cr, aR E 10 (fun j => (ci j).map ra))]) [0] rfl
  have hD := hD.sub (ws' := [] ++ [(cr, aR E 10 (fun j => (ci j).map ra))]) [0] (by decide) rfl
  refine xcr (va_runV (As := [.int y]) (rest := []) ⟨hx, hb, hml, hown, hts⟩ (kX7_rowAt l E x rg dr rs nr c0 h td rf y  H.size) (cwV 1 hts gX7_update_X7_rowAt rfl rfl rfl (by decide +kernel) ⟨Nat.le_of_ble_eq_true rfl, Nat.le_of_ble_eq_true rfl⟩) ⟨CP.blind, (va_recv hev.1 (xro hR0 hap hS) (ci := 8) (q0 := 0) rfl rfl), (xpre hev hz hA hP hD hS hR0 hap [1, 2] rfl)⟩ rfl rfl hl.1 rfl (lv_room (Nat.le_of_ble_eq_true rfl)) dX7_update_2 ⟨Nat.le_of_ble_eq_true rfl, Nat.le_of_ble_eq_true rfl⟩) hP hD hS hA (fun r1 w2 H locs h3 hP hD hS => ?_)
  obtain ⟨rfl, rfl, h3⟩ := h3
  try dsimp only at h3
  have hP : va_P E.1 vwCl [(cr, aR E 10 (fun j => (ci j).map ra))] H := hP
  have hD : va_D A [(cr, aR E 10 (fun j => (ci j).map ra))] := hD
  rw [hrx]
  refine lv_astore (lv' := [(4, .ref (ra i)), (0, .ref x), (1, .int y), (2, .long t)]) hx hb dX7_update_5 hl (by decide) rfl (fun ls hl => ?_)
  refine lv_aload_n hx hb dX7_update_7 rfl (lv_at hl 1 rfl) ?_
  refine lv_aload hx hb dX7_update_8 (lv_at hl 0 rfl) ?_
  refine lv_lload_n hx hb dX7_update_10 rfl (lv_at hl 3 rfl) ?_
  have hP := hP.sub (ws' := [] ++ [(cr, aR E 10 (fun j => (ci j).map ra))]) [0] rfl
  have hD := hD.sub (ws' := [] ++ [(cr, aR E 10 (fun j => (ci j).map ra))]) [0] (by decide) rfl
  refine xci (va_runV (As := [.ref (ra i), .long t]) (rest := []) ⟨hx, hb, hml, hown, hts⟩ (kX7_brokenRule l E x rg dr rs nr c0 h td cr rev sea ks ku kn fu ci N ra pr i t (by first | assumption | omega) (by first | assumption | omega) (by first | assumption | omega) (by first | assumption | omega) H.size) (cwV 2 hts gX7_update_X7_brokenRule rfl rfl rfl (by decide +kernel) ⟨Nat.le_of_ble_eq_true rfl, Nat.le_of_ble_eq_true rfl⟩) ⟨CP.blind, (va_recv hev.1 (xro hR0 hap hS) (ci := 8) (q0 := 0) rfl rfl), (xpreT (X := rowsW E N ra pr) hev hz hA hP hD hS hR0 hap [1, 3, 0, 4, 5] rfl (fun q9 h9 => List.mem_append_right _ h9))⟩ rfl rfl hl.1 rfl (lv_room (Nat.le_of_ble_eq_true rfl)) dX7_update_11 ⟨Nat.le_of_ble_eq_true rfl, Nat.le_of_ble_eq_true rfl⟩) hP hD hS hA (fun r4 w5 H locs h6 hP hD hS => ?_)
  obtain ⟨rfl, rfl, h6⟩ := h6
  try dsimp only at h6
  have hP : va_P E.1 vwCl [(cr, aR E 10 (fun j => (ci j).map ra))] H := hP
  have hD : va_D A [(cr, aR E 10 (fun j => (ci j).map ra))] := hD
  refine lv_istore (lv' := [(5, .int (nI (fbr ci pr rev (livM kn fu t) t i))), (4, .ref (ra i)), (0, .ref x), (1, .int y), (2, .long t)]) hx hb dX7_update_14 hl (by decide) rfl (fun ls hl => ?_)
  refine lv_iload hx hb dX7_update_16 (lv_at hl 0 rfl) ?_
  refine lv_if_eq (tgt := 25) hx hb dX7_update_18 (by decide) (fun c7 => ?_) (fun c7 => ?_)
  · skip
    have kc7 : (fbr ci pr rev (livM kn fu t) t i) = 0 := (nI_eq (a := (fbr ci pr rev (livM kn fu t) t i)) (b := 0) (by omega) (by omega)).mp c7
    have hap := xmoreA (L := [(ra i, .inr (5, [.int ((pr i).2.1 0), .int (nI ((pr i).1 17)), .int ((pr i).2.1 1), .long ((pr i).2.2.1), .ref ((pr i).1 0), .int (nI ((pr i).1 12)), .ref ((pr i).1 1), .ref ((pr i).1 2), .ref ((pr i).1 3), .ref ((pr i).1 4), .int (nI ((pr i).1 13)), .int (nI ((pr i).1 14)), .int ((pr i).2.1 2)])), ((pr i).1 0, aB E 16 ((pr i).2.2.2 0)), ((pr i).1 1, .inr (4, [.ref ((pr i).1 5), .ref ((pr i).1 6)])), ((pr i).1 5, aI E 10 ((pr i).2.2.2 1)), ((pr i).1 6, aI E 10 ((pr i).2.2.2 2)), ((pr i).1 2, .inr (7, [.ref ((pr i).1 7), .ref ((pr i).1 8), .int (nI ((pr i).1 15))])), ((pr i).1 7, aI E 7 ((pr i).2.2.2 3)), ((pr i).1 8, aI E 7 ((pr i).2.2.2 4)), ((pr i).1 3, .inr (2, [.ref ((pr i).1 9), .ref ((pr i).1 10), .ref ((pr i).1 11), .int (nI ((pr i).1 16))])), ((pr i).1 9, aI E 6 ((pr i).2.2.2 5)), ((pr i).1 10, aI E 6 ((pr i).2.2.2 6)), ((pr i).1 11, aZ E 6 ((pr i).2.2.2 7)), ((pr i).1 4, aI E 6 ((pr i).2.2.2 8))]) hap (fun q9 h9 => List.mem_append_right _ (rowsW_mem (E := E) (ra := ra) (pr := pr) (hi) q9 h9))
    have hR0 := xmore (L := [(ra i, .inr (5, [.int ((pr i).2.1 0), .int (nI ((pr i).1 17)), .int ((pr i).2.1 1), .long ((pr i).2.2.1), .ref ((pr i).1 0), .int (nI ((pr i).1 12)), .ref ((pr i).1 1), .ref ((pr i).1 2), .ref ((pr i).1 3), .ref ((pr i).1 4), .int (nI ((pr i).1 13)), .int (nI ((pr i).1 14)), .int ((pr i).2.1 2)])), ((pr i).1 0, aB E 16 ((pr i).2.2.2 0)), ((pr i).1 1, .inr (4, [.ref ((pr i).1 5), .ref ((pr i).1 6)])), ((pr i).1 5, aI E 10 ((pr i).2.2.2 1)), ((pr i).1 6, aI E 10 ((pr i).2.2.2 2)), ((pr i).1 2, .inr (7, [.ref ((pr i).1 7), .ref ((pr i).1 8), .int (nI ((pr i).1 15))])), ((pr i).1 7, aI E 7 ((pr i).2.2.2 3)), ((pr i).1 8, aI E 7 ((pr i).2.2.2 4)), ((pr i).1 3, .inr (2, [.ref ((pr i).1 9), .ref ((pr i).1 10), .ref ((pr i).1 11), .int (nI ((pr i).1 16))])), ((pr i).1 9, aI E 6 ((pr i).2.2.2 5)), ((pr i).1 10, aI E 6 ((pr i).2.2.2 6)), ((pr i).1 11, aZ E 6 ((pr i).2.2.2 7)), ((pr i).1 4, aI E 6 ((pr i).2.2.2 8))]) hR0 (fun q9 h9 => List.mem_append_right _ (rowsW_mem (E := E) (ra := ra) (pr := pr) (hi) q9 h9))
    have hap : ∀ q ∈ ([(ra i, .inr (5, [.int ((pr i).2.1 0), .int (nI ((pr i).1 17)), .int ((pr i).2.1 1), .long ((pr i).2.2.1), .ref ((pr i).1 0), .int (nI ((pr i).1 12)), .ref ((pr i).1 1), .ref ((pr i).1 2), .ref ((pr i).1 3), .ref ((pr i).1 4), .int (nI ((pr i).1 13)), .int (nI ((pr i).1 14)), .int ((pr i).2.1 2)])), ((pr i).1 0, aB E 16 ((pr i).2.2.2 0)), ((pr i).1 1, .inr (4, [.ref ((pr i).1 5), .ref ((pr i).1 6)])), ((pr i).1 5, aI E 10 ((pr i).2.2.2 1)), ((pr i).1 6, aI E 10 ((pr i).2.2.2 2)), ((pr i).1 2, .inr (7, [.ref ((pr i).1 7), .ref ((pr i).1 8), .int (nI ((pr i).1 15))])), ((pr i).1 7, aI E 7 ((pr i).2.2.2 3)), ((pr i).1 8, aI E 7 ((pr i).2.2.2 4)), ((pr i).1 3, .inr (2, [.ref ((pr i).1 9), .ref ((pr i).1 10), .ref ((pr i).1 11), .int (nI ((pr i).1 16))])), ((pr i).1 9, aI E 6 ((pr i).2.2.2 5)), ((pr i).1 10, aI E 6 ((pr i).2.2.2 6)), ((pr i).1 11, aZ E 6 ((pr i).2.2.2 7)), ((pr i).1 4, aI E 6 ((pr i).2.2.2 8)), (x, .inr (8, [.ref rg, .ref dr, .ref rs, .int nr, .ref c0, .ref h, .ref td])), (rs, aR E 24 rf), (c0, .inr (1, [.ref cr, .int rev, .int sea])), (rg, .inr (3, [.ref ks, .ref ku, .int (nI kn)])), (ku, aJ E 20 fu)] ++ rowsW E N ra pr), ¬ A q.1 := hap
    have hR0 : va_P E.1 vwCl ([(ra i, .inr (5, [.int ((pr i).2.1 0), .int (nI ((pr i).1 17)), .int ((pr i).2.1 1), .long ((pr i).2.2.1), .ref ((pr i).1 0), .int (nI ((pr i).1 12)), .ref ((pr i).1 1), .ref ((pr i).1 2), .ref ((pr i).1 3), .ref ((pr i).1 4), .int (nI ((pr i).1 13)), .int (nI ((pr i).1 14)), .int ((pr i).2.1 2)])), ((pr i).1 0, aB E 16 ((pr i).2.2.2 0)), ((pr i).1 1, .inr (4, [.ref ((pr i).1 5), .ref ((pr i).1 6)])), ((pr i).1 5, aI E 10 ((pr i).2.2.2 1)), ((pr i).1 6, aI E 10 ((pr i).2.2.2 2)), ((pr i).1 2, .inr (7, [.ref ((pr i).1 7), .ref ((pr i).1 8), .int (nI ((pr i).1 15))])), ((pr i).1 7, aI E 7 ((pr i).2.2.2 3)), ((pr i).1 8, aI E 7 ((pr i).2.2.2 4)), ((pr i).1 3, .inr (2, [.ref ((pr i).1 9), .ref ((pr i).1 10), .ref ((pr i).1 11), .int (nI ((pr i).1 16))])), ((pr i).1 9, aI E 6 ((pr i).2.2.2 5)), ((pr i).1 10, aI E 6 ((pr i).2.2.2 6)), ((pr i).1 11, aZ E 6 ((pr i).2.2.2 7)), ((pr i).1 4, aI E 6 ((pr i).2.2.2 8)), (x, .inr (8, [.ref rg, .ref dr, .ref rs, .int nr, .ref c0, .ref h, .ref td])), (rs, aR E 24 rf), (c0, .inr (1, [.ref cr, .int rev, .int sea])), (rg, .inr (3, [.ref ks, .ref ku, .int (nI kn)])), (ku, aJ E 20 fu)] ++ rowsW E N ra pr) s.heap := hR0
    obtain ⟨o12i, o13i, o14i, o15i, o16i, o17i⟩ := hok i (hi)
    refine lv_aload_n hx hb dX7_update_25 rfl (lv_at hl 2 rfl) ?_
    refine va_get (D := E.1) (ci := 8) (v := .ref c0) (C := RX7) (T := TX7) (N := 7) hx hb hts hiX7 hown hev.1 (xro hR0 hap hS) 13 rfl rfl 4 (by decide) hf36 (fun _ h9 => h9) rfl dX7_update_26 ?_
    refine lv_aload hx hb dX7_update_29 (lv_at hl 1 rfl) ?_
    have hP := hP.sub (ws' := [(cr, aR E 10 (fun j => (ci j).map ra))] ++ []) [0] rfl
    have hD := hD.sub (ws' := [(cr, aR E 10 (fun j => (ci j).map ra))] ++ []) [0] (by decide) rfl
    refine xcv (va_runV (As := [.ref (ra i)]) (rest := []) ⟨hx, hb, hml, hown, hts⟩ (kX0_take2 l E c0 cr rev sea (fun j => (ci j).map ra) (ra i) ((pr i).2.1 0) ((pr i).1 17) ((pr i).2.1 1) ((pr i).2.2.1) ((pr i).1 0) ((pr i).1 12) ((pr i).1 1) ((pr i).1 2) ((pr i).1 3) ((pr i).1 4) ((pr i).1 13) (nI ((pr i).1 14)) ((pr i).2.1 2) (by omega) H.size) (cwV 1 hts gX7_update_X0_take rfl rfl rfl (by decide +kernel) ⟨Nat.le_of_ble_eq_true rfl, Nat.le_of_ble_eq_true rfl⟩) ⟨CP.blind, (va_recv hev.1 (xro hR0 hap hS) (ci := 1) (q0 := 15) rfl rfl), (xpre hev hz hA hP hD hS hR0 hap [15, 0] rfl)⟩ rfl rfl hl.1 rfl (lv_room (Nat.le_of_ble_eq_true rfl)) dX7_update_31 ⟨Nat.le_of_ble_eq_true rfl, Nat.le_of_ble_eq_true rfl⟩) hP hD hS hA (fun w9 H locs h10 hP hD hS => ?_)
    obtain ⟨cu211, rfl, h10⟩ := h10
    try dsimp only at h10
    have hP : va_P E.1 vwCl [(cr, aR E 10 cu211)] H := hP
    have hD : va_D A [(cr, aR E 10 cu211)] := hD
    refine lv_iconst (v := 1) hx hb dX7_update_34 (by decide) ?_
    refine xri hx hb hr hlocks hP hD hS ⟨cu211, rfl, ?_⟩ dX7_update_35
    exact Or.inl ⟨by assumption, rfl, h10⟩
  · skip
    have kc7 : ¬ (fbr ci pr rev (livM kn fu t) t i) = 0 := fun h9 => c7 ((nI_eq (a := (fbr ci pr rev (livM kn fu t) t i)) (b := 0) (by omega) (by omega)).mpr h9)
    refine lv_iload hx hb dX7_update_21 (lv_at hl 0 rfl) ?_
    refine lv_ineg hx hb dX7_update_23 ?_
    refine xri hx hb hr hlocks hP hD hS ⟨(fun j => (ci j).map ra), rfl, ?_⟩ dX7_update_24
    exact Or.inr ⟨by assumption, by first | rfl | (subst_vars; rfl), rfl⟩

abbrev pX7_revoke (E : xE) (x : Nat) (rg : Nat) (dr : Nat) (rs : Nat) (nr : Int32) (c0 : Nat) (h : Nat) (td : Nat) (cr : Nat) (rev : Int32) (sea : Int32) (ks : Nat) (ku : Nat) (kn : Nat) (y : Int32) (r : Int32) (w : va_W) : Prop := ∃ (rev2 : Int32), w = [(c0, .inr (1, [.ref cr, .int rev2, .int sea]))] ∧ ((isN y kn ∧ (rev &&& (1 <<< (y &&& 31))) = 0 ∧ r = 1 ∧ rev2 = rev ||| (1 <<< (y &&& 31))) ∨ (¬ (isN y kn ∧ (rev &&& (1 <<< (y &&& 31))) = 0) ∧ r = 0 ∧ rev2 = rev))
set_option maxHeartbeats 4000000 in
set_option maxRecDepth 100000 in
theorem kX7_revoke (l : Launch) (E : xE) (x : Nat) (rg : Nat) (dr : Nat) (rs : Nat) (nr : Int32) (c0 : Nat) (h : Nat) (td : Nat) (cr : Nat) (rev : Int32) (sea : Int32) (ks : Nat) (ku : Nat) (kn : Nat) (y : Int32) (hkn : kn ≤ 20) : KT l yX7_revoke wsX7_revoke 1 22 0 0 E [(c0, .inr (1, [.ref cr, .int rev, .int sea]))] [(x, .inr (8, [.ref rg, .ref dr, .ref rs, .int nr, .ref c0, .ref h, .ref td])), (rg, .inr (3, [.ref ks, .ref ku, .int (nI kn)]))] [.ref x, .int y] (QI E (pX7_revoke E x rg dr rs nr c0 h td cr rev sea ks ku kn y)) := by
  refine KT.start (cc := cX7_revoke) (maxL := 2) (ret := (some .boolean)) (by decide) rfl (Nat.le_of_ble_eq_true rfl) ?_
  intro p e s m below meth c A H hx hb hr hlocks hml hts hown hin hP hR0 hD hap hev hz hA hS ls hl
  have hl : lv_has ls 2 [(0, .ref x), (1, .int y)] := hl
  have hiX7 : ∀ w ∈ wsX70, w ∈ wsX7_revoke := by decide +kernel
  have hf12 := hts (.fieldLink RX7 12 "SignQuorum" "ring" "LSignQuorum$KeyRing;") (by decide +kernel)
  have hf36 := hts (.fieldLink RX7 36 "SignQuorum" "client" "LSignQuorum$Client;") (by decide +kernel)
  refine lv_aload_n hx hb dX7_revoke_0 rfl (lv_at hl 0 rfl) ?_
  refine va_get (D := E.1) (ci := 8) (v := .ref rg) (C := RX7) (T := TX7) (N := 7) hx hb hts hiX7 hown hev.1 (xro hR0 hap hS) 0 rfl rfl 0 (by decide) hf12 (fun _ h9 => h9) rfl dX7_revoke_1 ?_
  refine lv_iload_n hx hb dX7_revoke_4 rfl (lv_at hl 1 rfl) ?_
  have hP := hP.sub (ws' := [] ++ [(c0, .inr (1, [.ref cr, .int rev, .int sea]))]) [0] rfl
  have hD := hD.sub (ws' := [] ++ [(c0, .inr (1, [.ref cr, .int rev, .int sea]))]) [0] (by decide) rfl
  refine xci (va_runV (As := [.int y]) (rest := []) ⟨hx, hb, hml, hown, hts⟩ (kX2_has l E rg ks ku kn y (by first | assumption | omega) H.size) (cwV 1 hts gX7_revoke_X2_has rfl rfl rfl (by decide +kernel) ⟨Nat.le_of_ble_eq_true rfl, Nat.le_of_ble_eq_true rfl⟩) ⟨CP.blind, (va_recv hev.1 (xro hR0 hap hS) (ci := 3) (q0 := 1) rfl rfl), (xpre hev hz hA hP hD hS hR0 hap [2] rfl)⟩ rfl rfl hl.1 rfl (lv_room (Nat.le_of_ble_eq_true rfl)) dX7_revoke_5 ⟨Nat.le_of_ble_eq_true rfl, Nat.le_of_ble_eq_true rfl⟩) hP hD hS hA (fun r1 w2 H locs h3 hP hD hS => ?_)
  obtain ⟨rfl, rfl, h3⟩ := h3
  try dsimp only at h3
  have hP : va_P E.1 vwCl [(c0, .inr (1, [.ref cr, .int rev, .int sea]))] H := hP
  have hD : va_D A [(c0, .inr (1, [.ref cr, .int rev, .int sea]))] := hD
  refine lv_if_eq (tgt := 26) hx hb dX7_revoke_8 (by decide) (fun c4 => ?_) (fun c4 => ?_)
  · skip
    have kc4 := b1_0.mp c4
    refine lv_iconst (v := 0) hx hb dX7_revoke_26 (by decide) ?_
    refine xrz hx hb hr hlocks (by first | rfl | decide | exact b1_narrow _) hP hD hS ⟨rev, rfl, ?_⟩ dX7_revoke_27
    exact Or.inr ⟨fun q => kc4 q.1, rfl, rfl⟩
  · skip
    have kc4 := b1_n.mp c4
    refine lv_aload_n hx hb dX7_revoke_11 rfl (lv_at hl 0 rfl) ?_
    refine va_get (D := E.1) (ci := 8) (v := .ref c0) (C := RX7) (T := TX7) (N := 7) hx hb hts hiX7 hown hev.1 (xro hR0 hap hS) 0 rfl rfl 4 (by decide) hf36 (fun _ h9 => h9) rfl dX7_revoke_12 ?_
    refine lv_iload_n hx hb dX7_revoke_15 rfl (lv_at hl 1 rfl) ?_
    have hP := hP.sub (ws' := [(c0, .inr (1, [.ref cr, .int rev, .int sea]))] ++ []) [0] rfl
    have hD := hD.sub (ws' := [(c0, .inr (1, [.ref cr, .int rev, .int sea]))] ++ []) [0] (by decide) rfl
    refine xci (va_runV (As := [.int y]) (rest := []) ⟨hx, hb, hml, hown, hts⟩ (kX0_learnRevoked l E c0 cr rev sea y  H.size) (cwV 1 hts gX7_revoke_X0_learnRevoked rfl rfl rfl (by decide +kernel) ⟨Nat.le_of_ble_eq_true rfl, Nat.le_of_ble_eq_true rfl⟩) ⟨CP.blind, (va_recv hev.1 hP.left (ci := 1) (q0 := 0) rfl rfl), (xpre hev hz hA hP hD hS hR0 hap [] rfl)⟩ rfl rfl hl.1 rfl (lv_room (Nat.le_of_ble_eq_true rfl)) dX7_revoke_16 ⟨Nat.le_of_ble_eq_true rfl, Nat.le_of_ble_eq_true rfl⟩) hP hD hS hA (fun r5 w6 H locs h7 hP hD hS => ?_)
    obtain ⟨rev28, rfl, rfl, h7⟩ := h7
    try dsimp only at h7
    have hP : va_P E.1 vwCl [(c0, .inr (1, [.ref cr, .int rev28, .int sea]))] H := hP
    have hD : va_D A [(c0, .inr (1, [.ref cr, .int rev28, .int sea]))] := hD
    refine lv_if_eq (tgt := 26) hx hb dX7_revoke_19 (by decide) (fun c9 => ?_) (fun c9 => ?_)
    · skip
      have kc9 := b1_0.mp c9
      refine lv_iconst (v := 0) hx hb dX7_revoke_26 (by decide) ?_
      refine xrz hx hb hr hlocks (by first | rfl | decide | exact b1_narrow _) hP hD hS ⟨rev28, rfl, ?_⟩ dX7_revoke_27
      exact Or.inr ⟨fun q => kc9 q.2, rfl, h7.2 kc9⟩
    · skip
      have kc9 := b1_n.mp c9
      refine lv_iconst (v := 1) hx hb dX7_revoke_22 (by decide) ?_
      refine lv_goto (tgt := 27) hx hb dX7_revoke_23 (by decide) ?_
      refine xrz hx hb hr hlocks (by first | rfl | decide | exact b1_narrow _) hP hD hS ⟨rev28, rfl, ?_⟩ dX7_revoke_27
      exact Or.inl ⟨kc4, kc9, rfl, h7.1 kc9⟩

abbrev pX7_version (E : xE) (x : Nat) (rg : Nat) (dr : Nat) (rs : Nat) (nr : Int32) (c0 : Nat) (h : Nat) (td : Nat) (cr : Nat) (rev : Int32) (sea : Int32) (ci : Nat → Option Nat) (N : Nat) (ra : Nat → Nat) (pr : Nat → RowP) (y : Int32) (r : Int32) (w : va_W) : Prop := w = [] ∧ ((¬ isN y 10 ∧ r = -1) ∨ ∃ j, j < 10 ∧ y = nI j ∧ ((ci j = none ∧ r = 0) ∨ ∃ i, ci j = some i ∧ r = (pr i).2.1 1))
set_option maxHeartbeats 4000000 in
set_option maxRecDepth 100000 in
theorem kX7_version (l : Launch) (E : xE) (x : Nat) (rg : Nat) (dr : Nat) (rs : Nat) (nr : Int32) (c0 : Nat) (h : Nat) (td : Nat) (cr : Nat) (rev : Int32) (sea : Int32) (ci : Nat → Option Nat) (N : Nat) (ra : Nat → Nat) (pr : Nat → RowP) (y : Int32) (hok : ∀ i, i < N → rOk (pr i)) (hci : ∀ j i, ci j = some i → i < N) : KT l yX7_version wsX7_version 2 41 0 0 E [] ([(x, .inr (8, [.ref rg, .ref dr, .ref rs, .int nr, .ref c0, .ref h, .ref td])), (c0, .inr (1, [.ref cr, .int rev, .int sea])), (cr, aR E 10 (fun j => (ci j).map ra))] ++ rowsW E N ra pr) [.ref x, .int y] (QI E (pX7_version E x rg dr rs nr c0 h td cr rev sea ci N ra pr y)) := by
  refine KT.start (cc := cX7_version) (maxL := 3) (ret := (some .int)) (by decide) rfl (Nat.le_of_ble_eq_true rfl) ?_
  intro p e s m below meth c A H hx hb hr hlocks hml hts hown hin hP hR0 hD hap hev hz hA hS ls hl
  have hl : lv_has ls 3 [(0, .ref x), (1, .int y)] := hl
  have hiX4 : ∀ w ∈ wsX40, w ∈ wsX7_version := by decide +kernel
  have hiX7 : ∀ w ∈ wsX70, w ∈ wsX7_version := by decide +kernel
  have hf36 := hts (.fieldLink RX7 36 "SignQuorum" "client" "LSignQuorum$Client;") (by decide +kernel)
  refine lv_iload_n hx hb dX7_version_0 rfl (lv_at hl 1 rfl) ?_
  have hP := hP.sub (ws' := [] ++ []) [] rfl
  have hD := hD.sub (ws' := [] ++ []) [] (by decide) rfl
  refine xci (va_runS (As := [.int y]) (rest := []) ⟨hx, hb, hml, hown, hts⟩ (kX7_isRole l E y  H.size) (va_cwS 1 hts gX7_version_X7_isRole rfl rfl rfl (by decide +kernel) ⟨Nat.le_of_ble_eq_true rfl, Nat.le_of_ble_eq_true rfl⟩) ⟨CP.blind, (xpre hev hz hA hP hD hS hR0 hap [] rfl)⟩ rfl rfl hl.1 rfl (lv_room (Nat.le_of_ble_eq_true rfl)) dX7_version_1 ⟨Nat.le_of_ble_eq_true rfl, Nat.le_of_ble_eq_true rfl⟩) hP hD hS hA (fun r1 w2 H locs h3 hP hD hS => ?_)
  obtain ⟨rfl, rfl, h3⟩ := h3
  try dsimp only at h3
  have hP : va_P E.1 vwCl [] H := hP
  have hD : va_D A [] := hD
  refine lv_if_ne (tgt := 9) hx hb dX7_version_4 (by decide) (fun c4 => ?_) (fun c4 => ?_)
  · skip
    have kc4 := b1_n.mp c4
    obtain ⟨j, hj, rfl⟩ := kc4
    refine lv_aload_n hx hb dX7_version_9 rfl (lv_at hl 0 rfl) ?_
    refine va_get (D := E.1) (ci := 8) (v := .ref c0) (C := RX7) (T := TX7) (N := 7) hx hb hts hiX7 hown hev.1 (xro hR0 hap hS) 0 rfl rfl 4 (by decide) hf36 (fun _ h9 => h9) rfl dX7_version_10 ?_
    refine lv_iload_n hx hb dX7_version_13 rfl (lv_at hl 1 rfl) ?_
    have hP := hP.sub (ws' := [] ++ []) [] rfl
    have hD := hD.sub (ws' := [] ++ []) [] (by decide) rfl
    refine xcr (va_runV (As := [.int (nI j)]) (rest := []) ⟨hx, hb, hml, hown, hts⟩ (kX0_currentOfJ l E c0 cr rev sea ci ra j (by first | assumption | omega) H.size) (cwV 1 hts gX7_version_X0_currentOf rfl rfl rfl (by decide +kernel) ⟨Nat.le_of_ble_eq_true rfl, Nat.le_of_ble_eq_true rfl⟩) ⟨CP.blind, (va_recv hev.1 (xro hR0 hap hS) (ci := 1) (q0 := 1) rfl rfl), (xpre hev hz hA hP hD hS hR0 hap [1, 2] rfl)⟩ rfl rfl hl.1 rfl (lv_room (Nat.le_of_ble_eq_true rfl)) dX7_version_14 ⟨Nat.le_of_ble_eq_true rfl, Nat.le_of_ble_eq_true rfl⟩) hP hD hS hA (fun r5 w6 H locs h7 hP hD hS => ?_)
    obtain ⟨rfl, rfl, h7⟩ := h7
    try dsimp only at h7
    have hP : va_P E.1 vwCl [] H := hP
    have hD : va_D A [] := hD
    cases o8 : ci j with
    | none =>
      refine lv_astore_nN (lv' := [(2, .null), (0, .ref x), (1, .int (nI j))]) hx hb dX7_version_17 rfl hl (by decide) rfl (fun ls hl => ?_)
      refine lv_aload_nN hx hb dX7_version_18 rfl (lv_at hl 0 rfl) ?_
      refine lv_ifnonnullN hx hb dX7_version_19 ?_
      refine lv_iconst (v := 0) hx hb dX7_version_22 (by decide) ?_
      refine lv_goto (tgt := 30) hx hb dX7_version_23 (by decide) ?_
      refine xri hx hb hr hlocks hP hD hS ⟨rfl, ?_⟩ dX7_version_30
      exact Or.inr ⟨j, hj, rfl, Or.inl ⟨o8, rfl⟩⟩
    | some kk =>
      have hap := xmoreA (L := [(ra kk, .inr (5, [.int ((pr kk).2.1 0), .int (nI ((pr kk).1 17)), .int ((pr kk).2.1 1), .long ((pr kk).2.2.1), .ref ((pr kk).1 0), .int (nI ((pr kk).1 12)), .ref ((pr kk).1 1), .ref ((pr kk).1 2), .ref ((pr kk).1 3), .ref ((pr kk).1 4), .int (nI ((pr kk).1 13)), .int (nI ((pr kk).1 14)), .int ((pr kk).2.1 2)])), ((pr kk).1 0, aB E 16 ((pr kk).2.2.2 0)), ((pr kk).1 1, .inr (4, [.ref ((pr kk).1 5), .ref ((pr kk).1 6)])), ((pr kk).1 5, aI E 10 ((pr kk).2.2.2 1)), ((pr kk).1 6, aI E 10 ((pr kk).2.2.2 2)), ((pr kk).1 2, .inr (7, [.ref ((pr kk).1 7), .ref ((pr kk).1 8), .int (nI ((pr kk).1 15))])), ((pr kk).1 7, aI E 7 ((pr kk).2.2.2 3)), ((pr kk).1 8, aI E 7 ((pr kk).2.2.2 4)), ((pr kk).1 3, .inr (2, [.ref ((pr kk).1 9), .ref ((pr kk).1 10), .ref ((pr kk).1 11), .int (nI ((pr kk).1 16))])), ((pr kk).1 9, aI E 6 ((pr kk).2.2.2 5)), ((pr kk).1 10, aI E 6 ((pr kk).2.2.2 6)), ((pr kk).1 11, aZ E 6 ((pr kk).2.2.2 7)), ((pr kk).1 4, aI E 6 ((pr kk).2.2.2 8))]) hap (fun q9 h9 => List.mem_append_right _ (rowsW_mem (E := E) (ra := ra) (pr := pr) (hci _ _ o8) q9 h9))
      have hR0 := xmore (L := [(ra kk, .inr (5, [.int ((pr kk).2.1 0), .int (nI ((pr kk).1 17)), .int ((pr kk).2.1 1), .long ((pr kk).2.2.1), .ref ((pr kk).1 0), .int (nI ((pr kk).1 12)), .ref ((pr kk).1 1), .ref ((pr kk).1 2), .ref ((pr kk).1 3), .ref ((pr kk).1 4), .int (nI ((pr kk).1 13)), .int (nI ((pr kk).1 14)), .int ((pr kk).2.1 2)])), ((pr kk).1 0, aB E 16 ((pr kk).2.2.2 0)), ((pr kk).1 1, .inr (4, [.ref ((pr kk).1 5), .ref ((pr kk).1 6)])), ((pr kk).1 5, aI E 10 ((pr kk).2.2.2 1)), ((pr kk).1 6, aI E 10 ((pr kk).2.2.2 2)), ((pr kk).1 2, .inr (7, [.ref ((pr kk).1 7), .ref ((pr kk).1 8), .int (nI ((pr kk).1 15))])), ((pr kk).1 7, aI E 7 ((pr kk).2.2.2 3)), ((pr kk).1 8, aI E 7 ((pr kk).2.2.2 4)), ((pr kk).1 3, .inr (2, [.ref ((pr kk).1 9), .ref ((pr kk).1 10), .ref ((pr kk).1 11), .int (nI ((pr kk).1 16))])), ((pr kk).1 9, aI E 6 ((pr kk).2.2.2 5)), ((pr kk).1 10, aI E 6 ((pr kk).2.2.2 6)), ((pr kk).1 11, aZ E 6 ((pr kk).2.2.2 7)), ((pr kk).1 4, aI E 6 ((pr kk).2.2.2 8))]) hR0 (fun q9 h9 => List.mem_append_right _ (rowsW_mem (E := E) (ra := ra) (pr := pr) (hci _ _ o8) q9 h9))
      have hap : ∀ q ∈ ([(ra kk, .inr (5, [.int ((pr kk).2.1 0), .int (nI ((pr kk).1 17)), .int ((pr kk).2.1 1), .long ((pr kk).2.2.1), .ref ((pr kk).1 0), .int (nI ((pr kk).1 12)), .ref ((pr kk).1 1), .ref ((pr kk).1 2), .ref ((pr kk).1 3), .ref ((pr kk).1 4), .int (nI ((pr kk).1 13)), .int (nI ((pr kk).1 14)), .int ((pr kk).2.1 2)])), ((pr kk).1 0, aB E 16 ((pr kk).2.2.2 0)), ((pr kk).1 1, .inr (4, [.ref ((pr kk).1 5), .ref ((pr kk).1 6)])), ((pr kk).1 5, aI E 10 ((pr kk).2.2.2 1)), ((pr kk).1 6, aI E 10 ((pr kk).2.2.2 2)), ((pr kk).1 2, .inr (7, [.ref ((pr kk).1 7), .ref ((pr kk).1 8), .int (nI ((pr kk).1 15))])), ((pr kk).1 7, aI E 7 ((pr kk).2.2.2 3)), ((pr kk).1 8, aI E 7 ((pr kk).2.2.2 4)), ((pr kk).1 3, .inr (2, [.ref ((pr kk).1 9), .ref ((pr kk).1 10), .ref ((pr kk).1 11), .int (nI ((pr kk).1 16))])), ((pr kk).1 9, aI E 6 ((pr kk).2.2.2 5)), ((pr kk).1 10, aI E 6 ((pr kk).2.2.2 6)), ((pr kk).1 11, aZ E 6 ((pr kk).2.2.2 7)), ((pr kk).1 4, aI E 6 ((pr kk).2.2.2 8)), (x, .inr (8, [.ref rg, .ref dr, .ref rs, .int nr, .ref c0, .ref h, .ref td])), (c0, .inr (1, [.ref cr, .int rev, .int sea])), (cr, aR E 10 (fun j => (ci j).map ra))] ++ rowsW E N ra pr), ¬ A q.1 := hap
      have hR0 : va_P E.1 vwCl ([(ra kk, .inr (5, [.int ((pr kk).2.1 0), .int (nI ((pr kk).1 17)), .int ((pr kk).2.1 1), .long ((pr kk).2.2.1), .ref ((pr kk).1 0), .int (nI ((pr kk).1 12)), .ref ((pr kk).1 1), .ref ((pr kk).1 2), .ref ((pr kk).1 3), .ref ((pr kk).1 4), .int (nI ((pr kk).1 13)), .int (nI ((pr kk).1 14)), .int ((pr kk).2.1 2)])), ((pr kk).1 0, aB E 16 ((pr kk).2.2.2 0)), ((pr kk).1 1, .inr (4, [.ref ((pr kk).1 5), .ref ((pr kk).1 6)])), ((pr kk).1 5, aI E 10 ((pr kk).2.2.2 1)), ((pr kk).1 6, aI E 10 ((pr kk).2.2.2 2)), ((pr kk).1 2, .inr (7, [.ref ((pr kk).1 7), .ref ((pr kk).1 8), .int (nI ((pr kk).1 15))])), ((pr kk).1 7, aI E 7 ((pr kk).2.2.2 3)), ((pr kk).1 8, aI E 7 ((pr kk).2.2.2 4)), ((pr kk).1 3, .inr (2, [.ref ((pr kk).1 9), .ref ((pr kk).1 10), .ref ((pr kk).1 11), .int (nI ((pr kk).1 16))])), ((pr kk).1 9, aI E 6 ((pr kk).2.2.2 5)), ((pr kk).1 10, aI E 6 ((pr kk).2.2.2 6)), ((pr kk).1 11, aZ E 6 ((pr kk).2.2.2 7)), ((pr kk).1 4, aI E 6 ((pr kk).2.2.2 8)), (x, .inr (8, [.ref rg, .ref dr, .ref rs, .int nr, .ref c0, .ref h, .ref td])), (c0, .inr (1, [.ref cr, .int rev, .int sea])), (cr, aR E 10 (fun j => (ci j).map ra))] ++ rowsW E N ra pr) s.heap := hR0
      have hltkk : kk < N := hci _ _ o8
      obtain ⟨o12kk, o13kk, o14kk, o15kk, o16kk, o17kk⟩ := hok kk (hci _ _ o8)
      refine lv_astore_n (lv' := [(2, .ref (ra kk)), (0, .ref x), (1, .int (nI j))]) hx hb dX7_version_17 rfl hl (by decide) rfl (fun ls hl => ?_)
      refine lv_aload_n hx hb dX7_version_18 rfl (lv_at hl 0 rfl) ?_
      refine lv_ifnonnull (tgt := 26) hx hb dX7_version_19 (by decide) ?_
      refine lv_aload_n hx hb dX7_version_26 rfl (lv_at hl 0 rfl) ?_
      refine va_getN (D := E.1) (ci := 5) (v := .int ((pr kk).2.1 1)) (C := RX4) (T := TX4) (N := 13) hx hb hts hiX4 hown hev.1 (xro hR0 hap hS) 0 rfl rfl 2 (by decide) (xNF10 hev.2.1) (fun _ h9 => h9) rfl dX7_version_27 ?_
      refine xri hx hb hr hlocks hP hD hS ⟨rfl, ?_⟩ dX7_version_30
      exact Or.inr ⟨j, hj, rfl, Or.inr ⟨kk, o8, rfl⟩⟩
  · skip
    have kc4 := b1_0.mp c4
    refine lv_iconst (v := (-1)) hx hb dX7_version_7 (by decide) ?_
    refine xri hx hb hr hlocks hP hD hS ⟨rfl, ?_⟩ dX7_version_8
    exact Or.inl ⟨kc4, rfl⟩

abbrev pX7_current (E : xE) (x : Nat) (rg : Nat) (dr : Nat) (rs : Nat) (nr : Int32) (c0 : Nat) (h : Nat) (td : Nat) (cr : Nat) (rev : Int32) (sea : Int32) (ci : Nat → Option Nat) (N : Nat) (ra : Nat → Nat) (pr : Nat → RowP) (y : Int32) (r : Int32) (w : va_W) : Prop := w = [] ∧ ((¬ isN y 10 ∧ r = -1) ∨ ∃ j, j < 10 ∧ y = nI j ∧ ((ci j = none ∧ r = -1) ∨ ∃ i, ci j = some i ∧ r = (pr i).2.1 0))
set_option maxHeartbeats 4000000 in
set_option maxRecDepth 100000 in
theorem kX7_current (l : Launch) (E : xE) (x : Nat) (rg : Nat) (dr : Nat) (rs : Nat) (nr : Int32) (c0 : Nat) (h : Nat) (td : Nat) (cr : Nat) (rev : Int32) (sea : Int32) (ci : Nat → Option Nat) (N : Nat) (ra : Nat → Nat) (pr : Nat → RowP) (y : Int32) (hok : ∀ i, i < N → rOk (pr i)) (hci : ∀ j i, ci j = some i → i < N) : KT l yX7_current wsX7_current 2 41 0 0 E [] ([(x, .inr (8, [.ref rg, .ref dr, .ref rs, .int nr, .ref c0, .ref h, .ref td])), (c0, .inr (1, [.ref cr, .int rev, .int sea])), (cr, aR E 10 (fun j => (ci j).map ra))] ++ rowsW E N ra pr) [.ref x, .int y] (QI E (pX7_current E x rg dr rs nr c0 h td cr rev sea ci N ra pr y)) := by
  refine KT.start (cc := cX7_current) (maxL := 3) (ret := (some .int)) (by decide) rfl (Nat.le_of_ble_eq_true rfl) ?_
  intro p e s m below meth c A H hx hb hr hlocks hml hts hown hin hP hR0 hD hap hev hz hA hS ls hl
  have hl : lv_has ls 3 [(0, .ref x), (1, .int y)] := hl
  have hiX4 : ∀ w ∈ wsX40, w ∈ wsX7_current := by decide +kernel
  have hiX7 : ∀ w ∈ wsX70, w ∈ wsX7_current := by decide +kernel
  have hf36 := hts (.fieldLink RX7 36 "SignQuorum" "client" "LSignQuorum$Client;") (by decide +kernel)
  refine lv_aload_n hx hb dX7_current_0 rfl (lv_at hl 0 rfl) ?_
  refine va_get (D := E.1) (ci := 8) (v := .ref c0) (C := RX7) (T := TX7) (N := 7) hx hb hts hiX7 hown hev.1 (xro hR0 hap hS) 0 rfl rfl 4 (by decide) hf36 (fun _ h9 => h9) rfl dX7_current_1 ?_
  refine lv_iload_n hx hb dX7_current_4 rfl (lv_at hl 1 rfl) ?_
  have hP := hP.sub (ws' := [] ++ []) [] rfl
  have hD := hD.sub (ws' := [] ++ []) [] (by decide) rfl
  refine xcr (va_runV (As := [.int y]) (rest := []) ⟨hx, hb, hml, hown, hts⟩ (kX0_currentOf l E c0 cr rev sea ci ra y  H.size) (cwV 1 hts gX7_current_X0_currentOf rfl rfl rfl (by decide +kernel) ⟨Nat.le_of_ble_eq_true rfl, Nat.le_of_ble_eq_true rfl⟩) ⟨CP.blind, (va_recv hev.1 (xro hR0 hap hS) (ci := 1) (q0 := 1) rfl rfl), (xpre hev hz hA hP hD hS hR0 hap [1, 2] rfl)⟩ rfl rfl hl.1 rfl (lv_room (Nat.le_of_ble_eq_true rfl)) dX7_current_5 ⟨Nat.le_of_ble_eq_true rfl, Nat.le_of_ble_eq_true rfl⟩) hP hD hS hA (fun r1 w2 H locs h3 hP hD hS => ?_)
  obtain ⟨rfl, h3⟩ := h3
  try dsimp only at h3
  have hP : va_P E.1 vwCl [] H := hP
  have hD : va_D A [] := hD
  rcases h3 with ⟨j, hj, rfl, rfl⟩ | ⟨hno, rfl⟩
  · skip
    cases o4 : ci j with
    | none =>
      refine lv_astore_nN (lv' := [(2, .null), (0, .ref x), (1, .int (nI j))]) hx hb dX7_current_8 rfl hl (by decide) rfl (fun ls hl => ?_)
      refine lv_aload_nN hx hb dX7_current_9 rfl (lv_at hl 0 rfl) ?_
      refine lv_ifnonnullN hx hb dX7_current_10 ?_
      refine lv_iconst (v := (-1)) hx hb dX7_current_13 (by decide) ?_
      refine lv_goto (tgt := 21) hx hb dX7_current_14 (by decide) ?_
      refine xri hx hb hr hlocks hP hD hS ⟨rfl, ?_⟩ dX7_current_21
      exact Or.inr ⟨j, hj, rfl, Or.inl ⟨o4, rfl⟩⟩
    | some kk =>
      have hap := xmoreA (L := [(ra kk, .inr (5, [.int ((pr kk).2.1 0), .int (nI ((pr kk).1 17)), .int ((pr kk).2.1 1), .long ((pr kk).2.2.1), .ref ((pr kk).1 0), .int (nI ((pr kk).1 12)), .ref ((pr kk).1 1), .ref ((pr kk).1 2), .ref ((pr kk).1 3), .ref ((pr kk).1 4), .int (nI ((pr kk).1 13)), .int (nI ((pr kk).1 14)), .int ((pr kk).2.1 2)])), ((pr kk).1 0, aB E 16 ((pr kk).2.2.2 0)), ((pr kk).1 1, .inr (4, [.ref ((pr kk).1 5), .ref ((pr kk).1 6)])), ((pr kk).1 5, aI E 10 ((pr kk).2.2.2 1)), ((pr kk).1 6, aI E 10 ((pr kk).2.2.2 2)), ((pr kk).1 2, .inr (7, [.ref ((pr kk).1 7), .ref ((pr kk).1 8), .int (nI ((pr kk).1 15))])), ((pr kk).1 7, aI E 7 ((pr kk).2.2.2 3)), ((pr kk).1 8, aI E 7 ((pr kk).2.2.2 4)), ((pr kk).1 3, .inr (2, [.ref ((pr kk).1 9), .ref ((pr kk).1 10), .ref ((pr kk).1 11), .int (nI ((pr kk).1 16))])), ((pr kk).1 9, aI E 6 ((pr kk).2.2.2 5)), ((pr kk).1 10, aI E 6 ((pr kk).2.2.2 6)), ((pr kk).1 11, aZ E 6 ((pr kk).2.2.2 7)), ((pr kk).1 4, aI E 6 ((pr kk).2.2.2 8))]) hap (fun q9 h9 => List.mem_append_right _ (rowsW_mem (E := E) (ra := ra) (pr := pr) (hci _ _ o4) q9 h9))
      have hR0 := xmore (L := [(ra kk, .inr (5, [.int ((pr kk).2.1 0), .int (nI ((pr kk).1 17)), .int ((pr kk).2.1 1), .long ((pr kk).2.2.1), .ref ((pr kk).1 0), .int (nI ((pr kk).1 12)), .ref ((pr kk).1 1), .ref ((pr kk).1 2), .ref ((pr kk).1 3), .ref ((pr kk).1 4), .int (nI ((pr kk).1 13)), .int (nI ((pr kk).1 14)), .int ((pr kk).2.1 2)])), ((pr kk).1 0, aB E 16 ((pr kk).2.2.2 0)), ((pr kk).1 1, .inr (4, [.ref ((pr kk).1 5), .ref ((pr kk).1 6)])), ((pr kk).1 5, aI E 10 ((pr kk).2.2.2 1)), ((pr kk).1 6, aI E 10 ((pr kk).2.2.2 2)), ((pr kk).1 2, .inr (7, [.ref ((pr kk).1 7), .ref ((pr kk).1 8), .int (nI ((pr kk).1 15))])), ((pr kk).1 7, aI E 7 ((pr kk).2.2.2 3)), ((pr kk).1 8, aI E 7 ((pr kk).2.2.2 4)), ((pr kk).1 3, .inr (2, [.ref ((pr kk).1 9), .ref ((pr kk).1 10), .ref ((pr kk).1 11), .int (nI ((pr kk).1 16))])), ((pr kk).1 9, aI E 6 ((pr kk).2.2.2 5)), ((pr kk).1 10, aI E 6 ((pr kk).2.2.2 6)), ((pr kk).1 11, aZ E 6 ((pr kk).2.2.2 7)), ((pr kk).1 4, aI E 6 ((pr kk).2.2.2 8))]) hR0 (fun q9 h9 => List.mem_append_right _ (rowsW_mem (E := E) (ra := ra) (pr := pr) (hci _ _ o4) q9 h9))
      have hap : ∀ q ∈ ([(ra kk, .inr (5, [.int ((pr kk).2.1 0), .int (nI ((pr kk).1 17)), .int ((pr kk).2.1 1), .long ((pr kk).2.2.1), .ref ((pr kk).1 0), .int (nI ((pr kk).1 12)), .ref ((pr kk).1 1), .ref ((pr kk).1 2), .ref ((pr kk).1 3), .ref ((pr kk).1 4), .int (nI ((pr kk).1 13)), .int (nI ((pr kk).1 14)), .int ((pr kk).2.1 2)])), ((pr kk).1 0, aB E 16 ((pr kk).2.2.2 0)), ((pr kk).1 1, .inr (4, [.ref ((pr kk).1 5), .ref ((pr kk).1 6)])), ((pr kk).1 5, aI E 10 ((pr kk).2.2.2 1)), ((pr kk).1 6, aI E 10 ((pr kk).2.2.2 2)), ((pr kk).1 2, .inr (7, [.ref ((pr kk).1 7), .ref ((pr kk).1 8), .int (nI ((pr kk).1 15))])), ((pr kk).1 7, aI E 7 ((pr kk).2.2.2 3)), ((pr kk).1 8, aI E 7 ((pr kk).2.2.2 4)), ((pr kk).1 3, .inr (2, [.ref ((pr kk).1 9), .ref ((pr kk).1 10), .ref ((pr kk).1 11), .int (nI ((pr kk).1 16))])), ((pr kk).1 9, aI E 6 ((pr kk).2.2.2 5)), ((pr kk).1 10, aI E 6 ((pr kk).2.2.2 6)), ((pr kk).1 11, aZ E 6 ((pr kk).2.2.2 7)), ((pr kk).1 4, aI E 6 ((pr kk).2.2.2 8)), (x, .inr (8, [.ref rg, .ref dr, .ref rs, .int nr, .ref c0, .ref h, .ref td])), (c0, .inr (1, [.ref cr, .int rev, .int sea])), (cr, aR E 10 (fun j => (ci j).map ra))] ++ rowsW E N ra pr), ¬ A q.1 := hap
      have hR0 : va_P E.1 vwCl ([(ra kk, .inr (5, [.int ((pr kk).2.1 0), .int (nI ((pr kk).1 17)), .int ((pr kk).2.1 1), .long ((pr kk).2.2.1), .ref ((pr kk).1 0), .int (nI ((pr kk).1 12)), .ref ((pr kk).1 1), .ref ((pr kk).1 2), .ref ((pr kk).1 3), .ref ((pr kk).1 4), .int (nI ((pr kk).1 13)), .int (nI ((pr kk).1 14)), .int ((pr kk).2.1 2)])), ((pr kk).1 0, aB E 16 ((pr kk).2.2.2 0)), ((pr kk).1 1, .inr (4, [.ref ((pr kk).1 5), .ref ((pr kk).1 6)])), ((pr kk).1 5, aI E 10 ((pr kk).2.2.2 1)), ((pr kk).1 6, aI E 10 ((pr kk).2.2.2 2)), ((pr kk).1 2, .inr (7, [.ref ((pr kk).1 7), .ref ((pr kk).1 8), .int (nI ((pr kk).1 15))])), ((pr kk).1 7, aI E 7 ((pr kk).2.2.2 3)), ((pr kk).1 8, aI E 7 ((pr kk).2.2.2 4)), ((pr kk).1 3, .inr (2, [.ref ((pr kk).1 9), .ref ((pr kk).1 10), .ref ((pr kk).1 11), .int (nI ((pr kk).1 16))])), ((pr kk).1 9, aI E 6 ((pr kk).2.2.2 5)), ((pr kk).1 10, aI E 6 ((pr kk).2.2.2 6)), ((pr kk).1 11, aZ E 6 ((pr kk).2.2.2 7)), ((pr kk).1 4, aI E 6 ((pr kk).2.2.2 8)), (x, .inr (8, [.ref rg, .ref dr, .ref rs, .int nr, .ref c0, .ref h, .ref td])), (c0, .inr (1, [.ref cr, .int rev, .int sea])), (cr, aR E 10 (fun j => (ci j).map ra))] ++ rowsW E N ra pr) s.heap := hR0
      have hltkk : kk < N := hci _ _ o4
      obtain ⟨o12kk, o13kk, o14kk, o15kk, o16kk, o17kk⟩ := hok kk (hci _ _ o4)
      refine lv_astore_n (lv' := [(2, .ref (ra kk)), (0, .ref x), (1, .int (nI j))]) hx hb dX7_current_8 rfl hl (by decide) rfl (fun ls hl => ?_)
      refine lv_aload_n hx hb dX7_current_9 rfl (lv_at hl 0 rfl) ?_
      refine lv_ifnonnull (tgt := 17) hx hb dX7_current_10 (by decide) ?_
      refine lv_aload_n hx hb dX7_current_17 rfl (lv_at hl 0 rfl) ?_
      refine va_getN (D := E.1) (ci := 5) (v := .int ((pr kk).2.1 0)) (C := RX4) (T := TX4) (N := 13) hx hb hts hiX4 hown hev.1 (xro hR0 hap hS) 0 rfl rfl 0 (by decide) (xNF6 hev.2.1) (fun _ h9 => h9) rfl dX7_current_18 ?_
      refine xri hx hb hr hlocks hP hD hS ⟨rfl, ?_⟩ dX7_current_21
      exact Or.inr ⟨j, hj, rfl, Or.inr ⟨kk, o4, rfl⟩⟩
  · skip
    refine lv_astore_nN (lv' := [(2, .null), (0, .ref x), (1, .int y)]) hx hb dX7_current_8 rfl hl (by decide) rfl (fun ls hl => ?_)
    refine lv_aload_nN hx hb dX7_current_9 rfl (lv_at hl 0 rfl) ?_
    refine lv_ifnonnullN hx hb dX7_current_10 ?_
    refine lv_iconst (v := (-1)) hx hb dX7_current_13 (by decide) ?_
    refine lv_goto (tgt := 21) hx hb dX7_current_14 (by decide) ?_
    refine xri hx hb hr hlocks hP hD hS ⟨rfl, ?_⟩ dX7_current_21
    exact Or.inl ⟨hno, rfl⟩

abbrev pX7_hashN (E : xE) (x : Nat) (rg : Nat) (dr : Nat) (rs : Nat) (nr : Int32) (c0 : Nat) (h : Nat) (td : Nat) (rf : Nat → Option Nat) (y : Int32) (r : Int32) (w : va_W) : Prop := w = [] ∧ r = -1 ∧ (True)
set_option maxHeartbeats 4000000 in
set_option maxRecDepth 100000 in
theorem kX7_hashN (l : Launch) (E : xE) (x : Nat) (rg : Nat) (dr : Nat) (rs : Nat) (nr : Int32) (c0 : Nat) (h : Nat) (td : Nat) (rf : Nat → Option Nat) (y : Int32) (hrx : rAt rf y = none) : KT l yX7_hash wsX7_hash 1 21 0 0 E [] [(x, .inr (8, [.ref rg, .ref dr, .ref rs, .int nr, .ref c0, .ref h, .ref td])), (rs, aR E 24 rf)] [.ref x, .int y] (QI E (pX7_hashN E x rg dr rs nr c0 h td rf y)) := by
  refine KT.start (cc := cX7_hash) (maxL := 4) (ret := (some .int)) (by decide) rfl (Nat.le_of_ble_eq_true rfl) ?_
  intro p e s m below meth c A H hx hb hr hlocks hml hts hown hin hP hR0 hD hap hev hz hA hS ls hl
  have hl : lv_has ls 4 [(0, .ref x), (1, .int y)] := hl
  refine lv_aload_n hx hb dX7_hash_0 rfl (lv_at hl 0 rfl) ?_
  refine lv_iload_n hx hb dX7_hash_1 rfl (lv_at hl 1 rfl) ?_
  have hP := hP.sub (ws' := [] ++ []) [] rfl
  have hD := hD.sub (ws' := [] ++ []) [] (by decide) rfl
  refine xcr (va_runV (As := [.int y]) (rest := []) ⟨hx, hb, hml, hown, hts⟩ (kX7_rowAt l E x rg dr rs nr c0 h td rf y  H.size) (cwV 1 hts gX7_hash_X7_rowAt rfl rfl rfl (by decide +kernel) ⟨Nat.le_of_ble_eq_true rfl, Nat.le_of_ble_eq_true rfl⟩) ⟨CP.blind, (va_recv hev.1 (xro hR0 hap hS) (ci := 8) (q0 := 0) rfl rfl), (xpre hev hz hA hP hD hS hR0 hap [0, 1] rfl)⟩ rfl rfl hl.1 rfl (lv_room (Nat.le_of_ble_eq_true rfl)) dX7_hash_2 ⟨Nat.le_of_ble_eq_true rfl, Nat.le_of_ble_eq_true rfl⟩) hP hD hS hA (fun r1 w2 H locs h3 hP hD hS => ?_)
  obtain ⟨rfl, rfl, h3⟩ := h3
  try dsimp only at h3
  have hP : va_P E.1 vwCl [] H := hP
  have hD : va_D A [] := hD
  rw [hrx]
  refine lv_astore_nN (lv' := [(2, .null), (0, .ref x), (1, .int y)]) hx hb dX7_hash_5 rfl hl (by decide) rfl (fun ls hl => ?_)
  refine lv_aload_nN hx hb dX7_hash_6 rfl (lv_at hl 0 rfl) ?_
  refine lv_ifnonnullN hx hb dX7_hash_7 ?_
  refine lv_iconst (v := (-1)) hx hb dX7_hash_10 (by decide) ?_
  refine xri hx hb hr hlocks hP hD hS ⟨rfl, ?_, ?_⟩ dX7_hash_11
  · rfl
  · trivial

abbrev pX7_hash (E : xE) (x : Nat) (rg : Nat) (dr : Nat) (rs : Nat) (nr : Int32) (c0 : Nat) (h : Nat) (td : Nat) (rf : Nat → Option Nat) (ms : Nat) (sc : Nat) (sa : Nat) (ln : Nat) (f : Nat → Int32) (fc : Nat → Int32) (fa : Nat → Int32) (fd : Nat → Int32) (w0 : Nat) (nu : Int32) (role : Int32) (ver : Int32) (unt : Int64) (oa : Nat) (oc : Nat) (qo : Nat) (tq : Nat) (dq : Nat) (ha : Nat) (pn : Nat) (sg : Int32) (rk : Int32) (fo : Nat → Int32) (na : Nat) (ma : Nat) (fn : Nat → Int32) (fm : Nat → Int32) (ra : Nat) (va : Nat) (tn : Nat) (fr : Nat → Int32) (fv : Nat → Int32) (pa : Nat) (ta : Nat) (ea : Nat) (dn : Nat) (fp : Nat → Int32) (ft : Nat → Int32) (fe : Nat → Int32) (fh : Nat → Int32) (y : Int32) (r : Int32) (w : va_W) : Prop := ∃ (l2 : Nat) (g : Nat → Int32) (gc : Nat → Int32) (ga : Nat → Int32) (gd : Nat → Int32), w = [(h, .inr (6, [.ref ms, .ref sc, .ref sa, .int (nI l2)])), (ms, aB E 128 g), (sc, aI E 64 gc), (sa, aI E 8 ga), (td, aI E 8 gd)] ∧ r = nI (rowB role ver unt oc fo fn fm tn fr fv dn fp ft fe pn fh).length ∧ (∀ i, i < 8 → gd i = shaL (rowB role ver unt oc fo fn fm tn fr fv dn fp ft fe pn fh) i)
set_option maxHeartbeats 4000000 in
set_option maxRecDepth 100000 in
theorem kX7_hash (l : Launch) (E : xE) (x : Nat) (rg : Nat) (dr : Nat) (rs : Nat) (nr : Int32) (c0 : Nat) (h : Nat) (td : Nat) (rf : Nat → Option Nat) (ms : Nat) (sc : Nat) (sa : Nat) (ln : Nat) (f : Nat → Int32) (fc : Nat → Int32) (fa : Nat → Int32) (fd : Nat → Int32) (w0 : Nat) (nu : Int32) (role : Int32) (ver : Int32) (unt : Int64) (oa : Nat) (oc : Nat) (qo : Nat) (tq : Nat) (dq : Nat) (ha : Nat) (pn : Nat) (sg : Int32) (rk : Int32) (fo : Nat → Int32) (na : Nat) (ma : Nat) (fn : Nat → Int32) (fm : Nat → Int32) (ra : Nat) (va : Nat) (tn : Nat) (fr : Nat → Int32) (fv : Nat → Int32) (pa : Nat) (ta : Nat) (ea : Nat) (dn : Nat) (fp : Nat → Int32) (ft : Nat → Int32) (fe : Nat → Int32) (fh : Nat → Int32) (y : Int32) (hrx : rAt rf y = some w0) (hoc : oc ≤ 16) (htn : tn ≤ 7) (hdn : dn ≤ 6) (hpn : pn ≤ 6) : KT l yX7_hash wsX7_hash 4 87 0 0 E [(h, .inr (6, [.ref ms, .ref sc, .ref sa, .int (nI ln)])), (ms, aB E 128 f), (sc, aI E 64 fc), (sa, aI E 8 fa), (td, aI E 8 fd)] [(x, .inr (8, [.ref rg, .ref dr, .ref rs, .int nr, .ref c0, .ref h, .ref td])), (rs, aR E 24 rf), (w0, .inr (5, [.int nu, .int role, .int ver, .long unt, .ref oa, .int (nI oc), .ref qo, .ref tq, .ref dq, .ref ha, .int (nI pn), .int sg, .int rk])), (oa, aB E 16 fo), (qo, .inr (4, [.ref na, .ref ma])), (na, aI E 10 fn), (ma, aI E 10 fm), (tq, .inr (7, [.ref ra, .ref va, .int (nI tn)])), (ra, aI E 7 fr), (va, aI E 7 fv), (dq, .inr (2, [.ref pa, .ref ta, .ref ea, .int (nI dn)])), (pa, aI E 6 fp), (ta, aI E 6 ft), (ea, aZ E 6 fe), (ha, aI E 6 fh)] [.ref x, .int y] (QI E (pX7_hash E x rg dr rs nr c0 h td rf ms sc sa ln f fc fa fd w0 nu role ver unt oa oc qo tq dq ha pn sg rk fo na ma fn fm ra va tn fr fv pa ta ea dn fp ft fe fh y)) := by
  refine KT.start (cc := cX7_hash) (maxL := 4) (ret := (some .int)) (by decide) rfl (Nat.le_of_ble_eq_true rfl) ?_
  intro p e s m below meth c A H hx hb hr hlocks hml hts hown hin hP hR0 hD hap hev hz hA hS ls hl
  have hl : lv_has ls 4 [(0, .ref x), (1, .int y)] := hl
  have hiX7 : ∀ w ∈ wsX70, w ∈ wsX7_hash := by decide +kernel
  have hf43 := hts (.fieldLink RX7 43 "SignQuorum" "sha" "LSignQuorum$Sha256;") (by decide +kernel)
  have hf47 := hts (.fieldLink RX7 47 "SignQuorum" "toldDigest" "[I") (by decide +kernel)
  have hrb := rowB_len_le role ver unt fo fn fm fr fv fp ft fe fh hoc htn hdn hpn
  refine lv_aload_n hx hb dX7_hash_0 rfl (lv_at hl 0 rfl) ?_
  refine lv_iload_n hx hb dX7_hash_1 rfl (lv_at hl 1 rfl) ?_
  have hP := hP.sub (ws' := [] ++ [(h, .inr (6, [.ref ms, .ref sc, .ref sa, .int (nI ln)])), (ms, aB E 128 f), (sc, aI E 64 fc), (sa, aI E 8 fa), (td, aI E 8 fd)]) [0, 1, 2, 3, 4] rfl
  have hD := hD.sub (ws' := [] ++ [(h, .inr (6, [.ref ms, .ref sc, .ref sa, .int (nI ln)])), (ms, aB E 128 f), (sc, aI E 64 fc), (sa, aI E 8 fa), (td, aI E 8 fd)]) [0, 1, 2, 3, 4] (by decide) rfl
  refine xcr (va_runV (As := [.int y]) (rest := []) ⟨hx, hb, hml, hown, hts⟩ (kX7_rowAt l E x rg dr rs nr c0 h td rf y  H.size) (cwV 1 hts gX7_hash_X7_rowAt rfl rfl rfl (by decide +kernel) ⟨Nat.le_of_ble_eq_true rfl, Nat.le_of_ble_eq_true rfl⟩) ⟨CP.blind, (va_recv hev.1 (xro hR0 hap hS) (ci := 8) (q0 := 0) rfl rfl), (xpre hev hz hA hP hD hS hR0 hap [5, 6] rfl)⟩ rfl rfl hl.1 rfl (lv_room (Nat.le_of_ble_eq_true rfl)) dX7_hash_2 ⟨Nat.le_of_ble_eq_true rfl, Nat.le_of_ble_eq_true rfl⟩) hP hD hS hA (fun r1 w2 H locs h3 hP hD hS => ?_)
  obtain ⟨rfl, rfl, h3⟩ := h3
  try dsimp only at h3
  have hP : va_P E.1 vwCl [(h, .inr (6, [.ref ms, .ref sc, .ref sa, .int (nI ln)])), (ms, aB E 128 f), (sc, aI E 64 fc), (sa, aI E 8 fa), (td, aI E 8 fd)] H := hP
  have hD : va_D A [(h, .inr (6, [.ref ms, .ref sc, .ref sa, .int (nI ln)])), (ms, aB E 128 f), (sc, aI E 64 fc), (sa, aI E 8 fa), (td, aI E 8 fd)] := hD
  rw [hrx]
  refine lv_astore_n (lv' := [(2, .ref w0), (0, .ref x), (1, .int y)]) hx hb dX7_hash_5 rfl hl (by decide) rfl (fun ls hl => ?_)
  refine lv_aload_n hx hb dX7_hash_6 rfl (lv_at hl 0 rfl) ?_
  refine lv_ifnonnull (tgt := 12) hx hb dX7_hash_7 (by decide) ?_
  refine lv_aload_n hx hb dX7_hash_12 rfl (lv_at hl 1 rfl) ?_
  refine va_get (D := E.1) (ci := 8) (v := .ref h) (C := RX7) (T := TX7) (N := 7) hx hb hts hiX7 hown hev.1 (xro hR0 hap hS) 0 rfl rfl 5 (by decide) hf43 (fun _ h9 => h9) rfl dX7_hash_13 ?_
  have hP := hP.sub (ws' := [(h, .inr (6, [.ref ms, .ref sc, .ref sa, .int (nI ln)]))] ++ [(ms, aB E 128 f), (sc, aI E 64 fc), (sa, aI E 8 fa), (td, aI E 8 fd)]) [0, 1, 2, 3, 4] rfl
  have hD := hD.sub (ws' := [(h, .inr (6, [.ref ms, .ref sc, .ref sa, .int (nI ln)]))] ++ [(ms, aB E 128 f), (sc, aI E 64 fc), (sa, aI E 8 fa), (td, aI E 8 fd)]) [0, 1, 2, 3, 4] (by decide) rfl
  refine xcv (va_runV (As := []) (rest := []) ⟨hx, hb, hml, hown, hts⟩ (kX5_begin l E h ms sc sa ln  H.size) (cwV 0 hts gX7_hash_X5_begin rfl rfl rfl (by decide +kernel) ⟨Nat.le_of_ble_eq_true rfl, Nat.le_of_ble_eq_true rfl⟩) ⟨CP.blind, (va_recv hev.1 hP.left (ci := 6) (q0 := 0) rfl rfl), (xpre hev hz hA hP hD hS hR0 hap [] rfl)⟩ rfl rfl hl.1 rfl (lv_room (Nat.le_of_ble_eq_true rfl)) dX7_hash_16 ⟨Nat.le_of_ble_eq_true rfl, Nat.le_of_ble_eq_true rfl⟩) hP hD hS hA (fun w5 H locs h6 hP hD hS => ?_)
  obtain ⟨rfl, h6⟩ := h6
  try dsimp only at h6
  have hP : va_P E.1 vwCl [(h, .inr (6, [.ref ms, .ref sc, .ref sa, .int 0])), (ms, aB E 128 f), (sc, aI E 64 fc), (sa, aI E 8 fa), (td, aI E 8 fd)] H := hP
  have hD : va_D A [(h, .inr (6, [.ref ms, .ref sc, .ref sa, .int 0])), (ms, aB E 128 f), (sc, aI E 64 fc), (sa, aI E 8 fa), (td, aI E 8 fd)] := hD
  refine lv_aload_n hx hb dX7_hash_19 rfl (lv_at hl 0 rfl) ?_
  refine lv_aload_n hx hb dX7_hash_20 rfl (lv_at hl 1 rfl) ?_
  refine va_get (D := E.1) (ci := 8) (v := .ref h) (C := RX7) (T := TX7) (N := 7) hx hb hts hiX7 hown hev.1 (xro hR0 hap hS) 0 rfl rfl 5 (by decide) hf43 (fun _ h9 => h9) rfl dX7_hash_21 ?_
  have hP := hP.sub (ws' := [(h, .inr (6, [.ref ms, .ref sc, .ref sa, .int 0])), (ms, aB E 128 f)] ++ [(sc, aI E 64 fc), (sa, aI E 8 fa), (td, aI E 8 fd)]) [0, 1, 2, 3, 4] rfl
  have hD := hD.sub (ws' := [(h, .inr (6, [.ref ms, .ref sc, .ref sa, .int 0])), (ms, aB E 128 f)] ++ [(sc, aI E 64 fc), (sa, aI E 8 fa), (td, aI E 8 fd)]) [0, 1, 2, 3, 4] (by decide) rfl
  refine xcv (va_runV (As := [.ref h]) (rest := []) ⟨hx, hb, hml, hown, hts⟩ (kX4_writeTo l E h ms sc sa 0 f w0 nu role ver unt oa oc qo tq dq ha pn sg rk fo na ma fn fm ra va tn fr fv pa ta ea dn fp ft fe fh (by first | assumption | omega) (by first | assumption | omega) (by first | assumption | omega) (by first | assumption | omega) (by first | assumption | omega) H.size) (cwV 1 hts gX7_hash_X4_writeTo rfl rfl rfl (by decide +kernel) ⟨Nat.le_of_ble_eq_true rfl, Nat.le_of_ble_eq_true rfl⟩) ⟨CP.blind, (va_recv hev.1 (xro hR0 hap hS) (ci := 5) (q0 := 2) rfl rfl), (xpre hev hz hA hP hD hS hR0 hap [5, 6, 7, 8, 9, 10, 11, 12, 13, 14, 15, 16, 17] rfl)⟩ rfl rfl hl.1 rfl (lv_room (Nat.le_of_ble_eq_true rfl)) dX7_hash_24 ⟨Nat.le_of_ble_eq_true rfl, Nat.le_of_ble_eq_true rfl⟩) hP hD hS hA (fun w8 H locs h9 hP hD hS => ?_)
  obtain ⟨g10, rfl, h9⟩ := h9
  try dsimp only at h9
  have hP : va_P E.1 vwCl [(h, .inr (6, [.ref ms, .ref sc, .ref sa, .int (nI (0 + (rowB role ver unt oc fo fn fm tn fr fv dn fp ft fe pn fh).length))])), (ms, aB E 128 g10), (sc, aI E 64 fc), (sa, aI E 8 fa), (td, aI E 8 fd)] H := hP
  have hD : va_D A [(h, .inr (6, [.ref ms, .ref sc, .ref sa, .int (nI (0 + (rowB role ver unt oc fo fn fm tn fr fv dn fp ft fe pn fh).length))])), (ms, aB E 128 g10), (sc, aI E 64 fc), (sa, aI E 8 fa), (td, aI E 8 fd)] := hD
  refine lv_aload_n hx hb dX7_hash_27 rfl (lv_at hl 1 rfl) ?_
  refine va_get (D := E.1) (ci := 8) (v := .ref h) (C := RX7) (T := TX7) (N := 7) hx hb hts hiX7 hown hev.1 (xro hR0 hap hS) 0 rfl rfl 5 (by decide) hf43 (fun _ h9 => h9) rfl dX7_hash_28 ?_
  have hP := hP.sub (ws' := [] ++ [(h, .inr (6, [.ref ms, .ref sc, .ref sa, .int (nI (0 + (rowB role ver unt oc fo fn fm tn fr fv dn fp ft fe pn fh).length))])), (ms, aB E 128 g10), (sc, aI E 64 fc), (sa, aI E 8 fa), (td, aI E 8 fd)]) [0, 1, 2, 3, 4] rfl
  have hD := hD.sub (ws' := [] ++ [(h, .inr (6, [.ref ms, .ref sc, .ref sa, .int (nI (0 + (rowB role ver unt oc fo fn fm tn fr fv dn fp ft fe pn fh).length))])), (ms, aB E 128 g10), (sc, aI E 64 fc), (sa, aI E 8 fa), (td, aI E 8 fd)]) [0, 1, 2, 3, 4] (by decide) rfl
  refine xci (va_runV (As := []) (rest := []) ⟨hx, hb, hml, hown, hts⟩ (kX5_length l E h ms sc sa (0 + (rowB role ver unt oc fo fn fm tn fr fv dn fp ft fe pn fh).length)  H.size) (cwV 0 hts gX7_hash_X5_length rfl rfl rfl (by decide +kernel) ⟨Nat.le_of_ble_eq_true rfl, Nat.le_of_ble_eq_true rfl⟩) ⟨CP.blind, (va_recv hev.1 hP (ci := 6) (q0 := 0) rfl rfl), (xpre hev hz hA hP hD hS hR0 hap [0] rfl)⟩ rfl rfl hl.1 rfl (lv_room (Nat.le_of_ble_eq_true rfl)) dX7_hash_31 ⟨Nat.le_of_ble_eq_true rfl, Nat.le_of_ble_eq_true rfl⟩) hP hD hS hA (fun r11 w12 H locs h13 hP hD hS => ?_)
  obtain ⟨rfl, rfl, h13⟩ := h13
  try dsimp only at h13
  have hP : va_P E.1 vwCl [(h, .inr (6, [.ref ms, .ref sc, .ref sa, .int (nI (0 + (rowB role ver unt oc fo fn fm tn fr fv dn fp ft fe pn fh).length))])), (ms, aB E 128 g10), (sc, aI E 64 fc), (sa, aI E 8 fa), (td, aI E 8 fd)] H := hP
  have hD : va_D A [(h, .inr (6, [.ref ms, .ref sc, .ref sa, .int (nI (0 + (rowB role ver unt oc fo fn fm tn fr fv dn fp ft fe pn fh).length))])), (ms, aB E 128 g10), (sc, aI E 64 fc), (sa, aI E 8 fa), (td, aI E 8 fd)] := hD
  refine lv_topi (fun v14 ev14 => ?_)
  refine lv_istore_n (lv' := [(3, .int v14), (2, .ref w0), (0, .ref x), (1, .int y)]) hx hb dX7_hash_34 rfl hl (by decide) rfl (fun ls hl => ?_)
  refine lv_aload_n hx hb dX7_hash_35 rfl (lv_at hl 2 rfl) ?_
  refine va_get (D := E.1) (ci := 8) (v := .ref h) (C := RX7) (T := TX7) (N := 7) hx hb hts hiX7 hown hev.1 (xro hR0 hap hS) 0 rfl rfl 5 (by decide) hf43 (fun _ h9 => h9) rfl dX7_hash_36 ?_
  have hP := hP.sub (ws' := [(ms, aB E 128 g10), (sc, aI E 64 fc), (sa, aI E 8 fa)] ++ [(h, .inr (6, [.ref ms, .ref sc, .ref sa, .int (nI (0 + (rowB role ver unt oc fo fn fm tn fr fv dn fp ft fe pn fh).length))])), (td, aI E 8 fd)]) [1, 2, 3, 0, 4] rfl
  have hD := hD.sub (ws' := [(ms, aB E 128 g10), (sc, aI E 64 fc), (sa, aI E 8 fa)] ++ [(h, .inr (6, [.ref ms, .ref sc, .ref sa, .int (nI (0 + (rowB role ver unt oc fo fn fm tn fr fv dn fp ft fe pn fh).length))])), (td, aI E 8 fd)]) [1, 2, 3, 0, 4] (by decide) rfl
  refine xcv (va_runV (As := []) (rest := []) ⟨hx, hb, hml, hown, hts⟩ (kX5_finish l E h ms sc sa (0 + (rowB role ver unt oc fo fn fm tn fr fv dn fp ft fe pn fh).length) g10 fc fa (by first | assumption | omega) H.size) (cwV 0 hts gX7_hash_X5_finish rfl rfl rfl (by decide +kernel) ⟨Nat.le_of_ble_eq_true rfl, Nat.le_of_ble_eq_true rfl⟩) ⟨CP.blind, (va_recv hev.1 hP (ci := 6) (q0 := 3) rfl rfl), (xpre hev hz hA hP hD hS hR0 hap [0] rfl)⟩ rfl rfl hl.1 rfl (lv_room (Nat.le_of_ble_eq_true rfl)) dX7_hash_39 ⟨Nat.le_of_ble_eq_true rfl, Nat.le_of_ble_eq_true rfl⟩) hP hD hS hA (fun w16 H locs h17 hP hD hS => ?_)
  obtain ⟨g18, gc19, ga20, rfl, h17⟩ := h17
  try dsimp only at h17
  have hP : va_P E.1 vwCl [(ms, aB E 128 g18), (sc, aI E 64 gc19), (sa, aI E 8 ga20), (h, .inr (6, [.ref ms, .ref sc, .ref sa, .int (nI (0 + (rowB role ver unt oc fo fn fm tn fr fv dn fp ft fe pn fh).length))])), (td, aI E 8 fd)] H := hP
  have hD : va_D A [(ms, aB E 128 g18), (sc, aI E 64 gc19), (sa, aI E 8 ga20), (h, .inr (6, [.ref ms, .ref sc, .ref sa, .int (nI (0 + (rowB role ver unt oc fo fn fm tn fr fv dn fp ft fe pn fh).length))])), (td, aI E 8 fd)] := hD
  refine lv_aload_n hx hb dX7_hash_42 rfl (lv_at hl 2 rfl) ?_
  refine va_get (D := E.1) (ci := 8) (v := .ref h) (C := RX7) (T := TX7) (N := 7) hx hb hts hiX7 hown hev.1 (xro hR0 hap hS) 0 rfl rfl 5 (by decide) hf43 (fun _ h9 => h9) rfl dX7_hash_43 ?_
  refine lv_aload_n hx hb dX7_hash_46 rfl (lv_at hl 2 rfl) ?_
  refine va_get (D := E.1) (ci := 8) (v := .ref td) (C := RX7) (T := TX7) (N := 7) hx hb hts hiX7 hown hev.1 (xro hR0 hap hS) 0 rfl rfl 6 (by decide) hf47 (fun _ h9 => h9) rfl dX7_hash_47 ?_
  have hP := hP.sub (ws' := [(sa, aI E 8 ga20), (td, aI E 8 fd)] ++ [(ms, aB E 128 g18), (sc, aI E 64 gc19), (h, .inr (6, [.ref ms, .ref sc, .ref sa, .int (nI (0 + (rowB role ver unt oc fo fn fm tn fr fv dn fp ft fe pn fh).length))]))]) [2, 4, 0, 1, 3] rfl
  have hD := hD.sub (ws' := [(sa, aI E 8 ga20), (td, aI E 8 fd)] ++ [(ms, aB E 128 g18), (sc, aI E 64 gc19), (h, .inr (6, [.ref ms, .ref sc, .ref sa, .int (nI (0 + (rowB role ver unt oc fo fn fm tn fr fv dn fp ft fe pn fh).length))]))]) [2, 4, 0, 1, 3] (by decide) rfl
  refine xcv (va_runV (As := [.ref td]) (rest := []) ⟨hx, hb, hml, hown, hts⟩ (kX5_copyWords l E h ms sc sa (0 + (rowB role ver unt oc fo fn fm tn fr fv dn fp ft fe pn fh).length) td ga20 fd  H.size) (cwV 1 hts gX7_hash_X5_copyWords rfl rfl rfl (by decide +kernel) ⟨Nat.le_of_ble_eq_true rfl, Nat.le_of_ble_eq_true rfl⟩) ⟨CP.blind, (va_recv hev.1 hP (ci := 6) (q0 := 4) rfl rfl), (xpre hev hz hA hP hD hS hR0 hap [2] rfl)⟩ rfl rfl hl.1 rfl (lv_room (Nat.le_of_ble_eq_true rfl)) dX7_hash_50 ⟨Nat.le_of_ble_eq_true rfl, Nat.le_of_ble_eq_true rfl⟩) hP hD hS hA (fun w22 H locs h23 hP hD hS => ?_)
  obtain ⟨gd24, rfl, h23⟩ := h23
  try dsimp only at h23
  have hP : va_P E.1 vwCl [(sa, aI E 8 ga20), (td, aI E 8 gd24), (ms, aB E 128 g18), (sc, aI E 64 gc19), (h, .inr (6, [.ref ms, .ref sc, .ref sa, .int (nI (0 + (rowB role ver unt oc fo fn fm tn fr fv dn fp ft fe pn fh).length))]))] H := hP
  have hD : va_D A [(sa, aI E 8 ga20), (td, aI E 8 gd24), (ms, aB E 128 g18), (sc, aI E 64 gc19), (h, .inr (6, [.ref ms, .ref sc, .ref sa, .int (nI (0 + (rowB role ver unt oc fo fn fm tn fr fv dn fp ft fe pn fh).length))]))] := hD
  refine lv_iload_n hx hb dX7_hash_53 rfl (lv_at hl 0 rfl) ?_
  refine xri hx hb hr hlocks (hP.sub (ws' := [(h, .inr (6, [.ref ms, .ref sc, .ref sa, .int (nI (0 + (rowB role ver unt oc fo fn fm tn fr fv dn fp ft fe pn fh).length))])), (ms, aB E 128 g18), (sc, aI E 64 gc19), (sa, aI E 8 ga20), (td, aI E 8 gd24)]) [4, 2, 3, 0, 1] rfl) (hD.sub (ws' := [(h, .inr (6, [.ref ms, .ref sc, .ref sa, .int (nI (0 + (rowB role ver unt oc fo fn fm tn fr fv dn fp ft fe pn fh).length))])), (ms, aB E 128 g18), (sc, aI E 64 gc19), (sa, aI E 8 ga20), (td, aI E 8 gd24)]) [4, 2, 3, 0, 1] (by decide) rfl) hS ⟨(0 + (rowB role ver unt oc fo fn fm tn fr fv dn fp ft fe pn fh).length), g18, gc19, ga20, gd24, rfl, ?_, ?_⟩ dX7_hash_54
  · rw [ev14, Nat.zero_add]
  · exact fun i hi => (h23 i hi).trans (shaL_of h17 (h9 : _ = ap f 0 (rowB role ver unt oc fo fn fm tn fr fv dn fp ft fe pn fh)) (by rw [Nat.zero_add]) i hi)

abbrev pX7_aboutN (E : xE) (x : Nat) (rg : Nat) (dr : Nat) (rs : Nat) (nr : Int32) (c0 : Nat) (h : Nat) (td : Nat) (rf : Nat → Option Nat) (y : Int32) (z : Int32) (r : Int32) (w : va_W) : Prop := w = [] ∧ r = -1 ∧ (True)
set_option maxHeartbeats 4000000 in
set_option maxRecDepth 100000 in
theorem kX7_aboutN (l : Launch) (E : xE) (x : Nat) (rg : Nat) (dr : Nat) (rs : Nat) (nr : Int32) (c0 : Nat) (h : Nat) (td : Nat) (rf : Nat → Option Nat) (y : Int32) (z : Int32) (hrx : rAt rf y = none) : KT l yX7_about wsX7_about 1 21 0 0 E [] [(x, .inr (8, [.ref rg, .ref dr, .ref rs, .int nr, .ref c0, .ref h, .ref td])), (rs, aR E 24 rf)] [.ref x, .int y, .int z] (QI E (pX7_aboutN E x rg dr rs nr c0 h td rf y z)) := by
  refine KT.start (cc := cX7_about) (maxL := 4) (ret := (some .int)) (by decide) rfl (Nat.le_of_ble_eq_true rfl) ?_
  intro p e s m below meth c A H hx hb hr hlocks hml hts hown hin hP hR0 hD hap hev hz hA hS ls hl
  have hl : lv_has ls 4 [(0, .ref x), (1, .int y), (2, .int z)] := hl
  refine lv_aload_n hx hb dX7_about_0 rfl (lv_at hl 0 rfl) ?_
  refine lv_iload_n hx hb dX7_about_1 rfl (lv_at hl 1 rfl) ?_
  have hP := hP.sub (ws' := [] ++ []) [] rfl
  have hD := hD.sub (ws' := [] ++ []) [] (by decide) rfl
  refine xcr (va_runV (As := [.int y]) (rest := []) ⟨hx, hb, hml, hown, hts⟩ (kX7_rowAt l E x rg dr rs nr c0 h td rf y  H.size) (cwV 1 hts gX7_about_X7_rowAt rfl rfl rfl (by decide +kernel) ⟨Nat.le_of_ble_eq_true rfl, Nat.le_of_ble_eq_true rfl⟩) ⟨CP.blind, (va_recv hev.1 (xro hR0 hap hS) (ci := 8) (q0 := 0) rfl rfl), (xpre hev hz hA hP hD hS hR0 hap [0, 1] rfl)⟩ rfl rfl hl.1 rfl (lv_room (Nat.le_of_ble_eq_true rfl)) dX7_about_2 ⟨Nat.le_of_ble_eq_true rfl, Nat.le_of_ble_eq_true rfl⟩) hP hD hS hA (fun r1 w2 H locs h3 hP hD hS => ?_)
  obtain ⟨rfl, rfl, h3⟩ := h3
  try dsimp only at h3
  have hP : va_P E.1 vwCl [] H := hP
  have hD : va_D A [] := hD
  rw [hrx]
  refine lv_astore_nN (lv' := [(3, .null), (0, .ref x), (1, .int y), (2, .int z)]) hx hb dX7_about_5 rfl hl (by decide) rfl (fun ls hl => ?_)
  refine lv_aload_nN hx hb dX7_about_6 rfl (lv_at hl 0 rfl) ?_
  refine lv_ifnonnullN hx hb dX7_about_7 ?_
  refine lv_iconst (v := (-1)) hx hb dX7_about_10 (by decide) ?_
  refine xri hx hb hr hlocks hP hD hS ⟨rfl, ?_, ?_⟩ dX7_about_11
  · rfl
  · trivial

abbrev pX7_about (E : xE) (x : Nat) (rg : Nat) (dr : Nat) (rs : Nat) (nr : Int32) (c0 : Nat) (h : Nat) (td : Nat) (rf : Nat → Option Nat) (w0 : Nat) (nu : Int32) (role : Int32) (ver : Int32) (unt : Int64) (oa : Nat) (oc : Nat) (qo : Nat) (tq : Nat) (dq : Nat) (ha : Nat) (pn : Nat) (sn : Nat) (rk : Int32) (ra : Nat) (va : Nat) (tn : Nat) (pa : Nat) (ta : Nat) (ea : Nat) (dn : Nat) (y : Int32) (z : Int32) (r : Int32) (w : va_W) : Prop := w = [] ∧ r = abt z role ver sn rk tn dn pn ∧ (True)
set_option maxHeartbeats 4000000 in
set_option maxRecDepth 100000 in
theorem kX7_about (l : Launch) (E : xE) (x : Nat) (rg : Nat) (dr : Nat) (rs : Nat) (nr : Int32) (c0 : Nat) (h : Nat) (td : Nat) (rf : Nat → Option Nat) (w0 : Nat) (nu : Int32) (role : Int32) (ver : Int32) (unt : Int64) (oa : Nat) (oc : Nat) (qo : Nat) (tq : Nat) (dq : Nat) (ha : Nat) (pn : Nat) (sn : Nat) (rk : Int32) (ra : Nat) (va : Nat) (tn : Nat) (pa : Nat) (ta : Nat) (ea : Nat) (dn : Nat) (y : Int32) (z : Int32) (hrx : rAt rf y = some w0) : KT l yX7_about wsX7_about 1 21 0 0 E [] [(x, .inr (8, [.ref rg, .ref dr, .ref rs, .int nr, .ref c0, .ref h, .ref td])), (rs, aR E 24 rf), (w0, .inr (5, [.int nu, .int role, .int ver, .long unt, .ref oa, .int (nI oc), .ref qo, .ref tq, .ref dq, .ref ha, .int (nI pn), .int (nI sn), .int rk])), (tq, .inr (7, [.ref ra, .ref va, .int (nI tn)])), (dq, .inr (2, [.ref pa, .ref ta, .ref ea, .int (nI dn)]))] [.ref x, .int y, .int z] (QI E (pX7_about E x rg dr rs nr c0 h td rf w0 nu role ver unt oa oc qo tq dq ha pn sn rk ra va tn pa ta ea dn y z)) := by
  refine KT.start (cc := cX7_about) (maxL := 4) (ret := (some .int)) (by decide) rfl (Nat.le_of_ble_eq_true rfl) ?_
  intro p e s m below meth c A H hx hb hr hlocks hml hts hown hin hP hR0 hD hap hev hz hA hS ls hl
  have hl : lv_has ls 4 [(0, .ref x), (1, .int y), (2, .int z)] := hl
  have hiX1 : ∀ w ∈ wsX10, w ∈ wsX7_about := by decide +kernel
  have hiX4 : ∀ w ∈ wsX40, w ∈ wsX7_about := by decide +kernel
  have hiX6 : ∀ w ∈ wsX60, w ∈ wsX7_about := by decide +kernel
  refine lv_aload_n hx hb dX7_about_0 rfl (lv_at hl 0 rfl) ?_
  refine lv_iload_n hx hb dX7_about_1 rfl (lv_at hl 1 rfl) ?_
  have hP := hP.sub (ws' := [] ++ []) [] rfl
  have hD := hD.sub (ws' := [] ++ []) [] (by decide) rfl
  refine xcr (va_runV (As := [.int y]) (rest := []) ⟨hx, hb, hml, hown, hts⟩ (kX7_rowAt l E x rg dr rs nr c0 h td rf y  H.size) (cwV 1 hts gX7_about_X7_rowAt rfl rfl rfl (by decide +kernel) ⟨Nat.le_of_ble_eq_true rfl, Nat.le_of_ble_eq_true rfl⟩) ⟨CP.blind, (va_recv hev.1 (xro hR0 hap hS) (ci := 8) (q0 := 0) rfl rfl), (xpre hev hz hA hP hD hS hR0 hap [0, 1] rfl)⟩ rfl rfl hl.1 rfl (lv_room (Nat.le_of_ble_eq_true rfl)) dX7_about_2 ⟨Nat.le_of_ble_eq_true rfl, Nat.le_of_ble_eq_true rfl⟩) hP hD hS hA (fun r1 w2 H locs h3 hP hD hS => ?_)
  obtain ⟨rfl, rfl, h3⟩ := h3
  try dsimp only at h3
  have hP : va_P E.1 vwCl [] H := hP
  have hD : va_D A [] := hD
  rw [hrx]
  refine lv_astore_n (lv' := [(3, .ref w0), (0, .ref x), (1, .int y), (2, .int z)]) hx hb dX7_about_5 rfl hl (by decide) rfl (fun ls hl => ?_)
  refine lv_aload_n hx hb dX7_about_6 rfl (lv_at hl 0 rfl) ?_
  refine lv_ifnonnull (tgt := 12) hx hb dX7_about_7 (by decide) ?_
  refine lv_iload_n hx hb dX7_about_12 rfl (lv_at hl 3 rfl) ?_
  by_cases t4 : z = 0
  · refine lv_tableIn (off := 43) (tgt := 56) hx hb dX7_about_13 (by rw [t4]; decide) (by rw [t4]; decide) (by rw [t4]; decide +kernel) (by decide) ?_
    refine lv_aload_n hx hb dX7_about_56 rfl (lv_at hl 0 rfl) ?_
    refine va_getN (D := E.1) (ci := 5) (v := .int role) (C := RX4) (T := TX4) (N := 13) hx hb hts hiX4 hown hev.1 (xro hR0 hap hS) 2 rfl rfl 1 (by decide) (xNF8 hev.2.1) (fun _ h9 => h9) rfl dX7_about_57 ?_
    refine xri hx hb hr hlocks hP hD hS ⟨rfl, ?_, ?_⟩ dX7_about_60
    · rw [abt, if_pos t4]
    · trivial
  · skip
    by_cases t5 : z = 1
    · refine lv_tableIn (off := 48) (tgt := 61) hx hb dX7_about_13 (by rw [t5]; decide) (by rw [t5]; decide) (by rw [t5]; decide +kernel) (by decide) ?_
      refine lv_aload_n hx hb dX7_about_61 rfl (lv_at hl 0 rfl) ?_
      refine va_getN (D := E.1) (ci := 5) (v := .int ver) (C := RX4) (T := TX4) (N := 13) hx hb hts hiX4 hown hev.1 (xro hR0 hap hS) 2 rfl rfl 2 (by decide) (xNF10 hev.2.1) (fun _ h9 => h9) rfl dX7_about_62 ?_
      refine xri hx hb hr hlocks hP hD hS ⟨rfl, ?_, ?_⟩ dX7_about_65
      · rw [abt, if_neg t4, if_pos t5]
      · trivial
    · skip
      by_cases t6 : z = 2
      · refine lv_tableIn (off := 53) (tgt := 66) hx hb dX7_about_13 (by rw [t6]; decide) (by rw [t6]; decide) (by rw [t6]; decide +kernel) (by decide) ?_
        refine lv_aload_n hx hb dX7_about_66 rfl (lv_at hl 0 rfl) ?_
        refine va_getN (D := E.1) (ci := 5) (v := .int (nI sn)) (C := RX4) (T := TX4) (N := 13) hx hb hts hiX4 hown hev.1 (xro hR0 hap hS) 2 rfl rfl 11 (by decide) (xNF18 hev.2.1) (fun _ h9 => h9) rfl dX7_about_67 ?_
        refine xri hx hb hr hlocks hP hD hS ⟨rfl, ?_, ?_⟩ dX7_about_70
        · rw [abt, if_neg t4, if_neg t5, if_pos t6]
        · trivial
      · skip
        by_cases t7 : z = 3
        · refine lv_tableIn (off := 58) (tgt := 71) hx hb dX7_about_13 (by rw [t7]; decide) (by rw [t7]; decide) (by rw [t7]; decide +kernel) (by decide) ?_
          refine lv_aload_n hx hb dX7_about_71 rfl (lv_at hl 0 rfl) ?_
          refine va_getN (D := E.1) (ci := 5) (v := .int rk) (C := RX4) (T := TX4) (N := 13) hx hb hts hiX4 hown hev.1 (xro hR0 hap hS) 2 rfl rfl 12 (by decide) (xNF20 hev.2.1) (fun _ h9 => h9) rfl dX7_about_72 ?_
          have hP := hP.sub (ws' := [] ++ []) [] rfl
          have hD := hD.sub (ws' := [] ++ []) [] (by decide) rfl
          refine xci (va_runS (As := [.int rk]) (rest := []) ⟨hx, hb, hml, hown, hts⟩ (kJ6_bitCount_0f7a4 l E rk  H.size) (va_cwS 1 hts gX7_about_J6_bitCount_0f7a4 rfl rfl rfl (by decide +kernel) ⟨Nat.le_of_ble_eq_true rfl, Nat.le_of_ble_eq_true rfl⟩) ⟨CP.blind, (xpre hev hz hA hP hD hS hR0 hap [] rfl)⟩ rfl rfl hl.1 rfl (lv_room (Nat.le_of_ble_eq_true rfl)) dX7_about_75 ⟨Nat.le_of_ble_eq_true rfl, Nat.le_of_ble_eq_true rfl⟩) hP hD hS hA (fun r8 w9 H locs h10 hP hD hS => ?_)
          obtain ⟨rfl, rfl, h10⟩ := h10
          try dsimp only at h10
          have hP : va_P E.1 vwCl [] H := hP
          have hD : va_D A [] := hD
          refine xri hx hb hr hlocks hP hD hS ⟨rfl, ?_, ?_⟩ dX7_about_78
          · rw [abt, if_neg t4, if_neg t5, if_neg t6, if_pos t7]
          · trivial
        · skip
          by_cases t11 : z = 4
          · refine lv_tableIn (off := 66) (tgt := 79) hx hb dX7_about_13 (by rw [t11]; decide) (by rw [t11]; decide) (by rw [t11]; decide +kernel) (by decide) ?_
            refine lv_aload_n hx hb dX7_about_79 rfl (lv_at hl 0 rfl) ?_
            refine va_getN (D := E.1) (ci := 5) (v := .ref tq) (C := RX4) (T := TX4) (N := 13) hx hb hts hiX4 hown hev.1 (xro hR0 hap hS) 2 rfl rfl 7 (by decide) (xNF13 hev.2.1) (fun _ h9 => h9) rfl dX7_about_80 ?_
            refine va_getN (D := E.1) (ci := 7) (v := .int (nI tn)) (C := RX6) (T := TX6) (N := 3) hx hb hts hiX6 hown hev.1 (xro hR0 hap hS) 3 rfl rfl 2 (by decide) (xNF0 hev.2.1) (fun _ h9 => h9) rfl dX7_about_83 ?_
            refine xri hx hb hr hlocks hP hD hS ⟨rfl, ?_, ?_⟩ dX7_about_86
            · rw [abt, if_neg t4, if_neg t5, if_neg t6, if_neg t7, if_pos t11]
            · trivial
          · skip
            by_cases t12 : z = 5
            · refine lv_tableIn (off := 74) (tgt := 87) hx hb dX7_about_13 (by rw [t12]; decide) (by rw [t12]; decide) (by rw [t12]; decide +kernel) (by decide) ?_
              refine lv_aload_n hx hb dX7_about_87 rfl (lv_at hl 0 rfl) ?_
              refine va_getN (D := E.1) (ci := 5) (v := .ref dq) (C := RX4) (T := TX4) (N := 13) hx hb hts hiX4 hown hev.1 (xro hR0 hap hS) 2 rfl rfl 8 (by decide) (xNF15 hev.2.1) (fun _ h9 => h9) rfl dX7_about_88 ?_
              refine va_getN (D := E.1) (ci := 2) (v := .int (nI dn)) (C := RX1) (T := TX1) (N := 4) hx hb hts hiX1 hown hev.1 (xro hR0 hap hS) 4 rfl rfl 3 (by decide) (xNF5 hev.2.1) (fun _ h9 => h9) rfl dX7_about_91 ?_
              refine xri hx hb hr hlocks hP hD hS ⟨rfl, ?_, ?_⟩ dX7_about_94
              · rw [abt, if_neg t4, if_neg t5, if_neg t6, if_neg t7, if_neg t11, if_pos t12]
              · trivial
            · skip
              by_cases t13 : z = 6
              · refine lv_tableIn (off := 82) (tgt := 95) hx hb dX7_about_13 (by rw [t13]; decide) (by rw [t13]; decide) (by rw [t13]; decide +kernel) (by decide) ?_
                refine lv_aload_n hx hb dX7_about_95 rfl (lv_at hl 0 rfl) ?_
                refine va_getN (D := E.1) (ci := 5) (v := .int (nI pn)) (C := RX4) (T := TX4) (N := 13) hx hb hts hiX4 hown hev.1 (xro hR0 hap hS) 2 rfl rfl 10 (by decide) (xNF17 hev.2.1) (fun _ h9 => h9) rfl dX7_about_96 ?_
                refine xri hx hb hr hlocks hP hD hS ⟨rfl, ?_, ?_⟩ dX7_about_99
                · rw [abt, if_neg t4, if_neg t5, if_neg t6, if_neg t7, if_neg t11, if_neg t12, if_pos t13]
                · trivial
              · skip
                refine lv_tableOut (tgt := 100) hx hb dX7_about_13 (xtab6 t4 t5 t6 t7 t11 t12 t13) (by decide) ?_
                refine lv_iconst (v := (-1)) hx hb dX7_about_100 (by decide) ?_
                refine xri hx hb hr hlocks hP hD hS ⟨rfl, ?_, ?_⟩ dX7_about_101
                · rw [abt, if_neg t4, if_neg t5, if_neg t6, if_neg t7, if_neg t11, if_neg t12, if_neg t13]
                · trivial
