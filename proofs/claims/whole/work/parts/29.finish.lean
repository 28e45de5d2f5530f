abbrev pX5_finish (E : xE) (h : Nat) (ms : Nat) (sc : Nat) (sa : Nat) (n : Nat) (f : Nat → Int32) (fc : Nat → Int32) (fa : Nat → Int32) (w : va_W) : Prop := ∃ (g : Nat → Int32) (gc : Nat → Int32) (ga : Nat → Int32), w = [(ms, aB E 128 g), (sc, aI E 64 gc), (sa, aI E 8 ga)] ∧ (∀ i, i < 8 → ga i = shaF f n i)
set_option maxHeartbeats 4000000 in
set_option maxRecDepth 100000 in
theorem kX5_finish (l : Launch) (E : xE) (h : Nat) (ms : Nat) (sc : Nat) (sa : Nat) (n : Nat) (f : Nat → Int32) (fc : Nat → Int32) (fa : Nat → Int32) (hn : n ≤ 119) : KT l yX5_finish wsX5_finish 2 55 0 0 E [(ms, aB E 128 f), (sc, aI E 64 fc), (sa, aI E 8 fa)] [(h, .inr (6, [.ref ms, .ref sc, .ref sa, .int (nI n)]))] [.ref h] (QV E (pX5_finish E h ms sc sa n f fc fa)) := by
  refine KT.start (cc := cX5_finish) (maxL := 3) (ret := none) (by decide) rfl (Nat.le_of_ble_eq_true rfl) ?_
  intro p e s m below meth c A H hx hb hr hlocks hml hts hown hin hP hR0 hD hap hev hz hA hS ls hl
  have hl : lv_has ls 3 [(0, .ref h)] := hl
  have hiX5 : ∀ w ∈ wsX50, w ∈ wsX5_finish := by decide +kernel
  have hac1 := hts (.methodLink RX5 39 arraycopyName) (by decide +kernel)
  have hac2 := hts (.native arraycopyName) (by decide +kernel)
  have hac3 := hts (.static arraycopyName) (by decide +kernel)
  have hac4 := hts (.initialized "java/lang/System") (by decide +kernel)
  have hf19 := hts (.fieldLink RX5 19 "SignQuorum$Sha256" "state" "[I") (by decide +kernel)
  have hf22 := hts (.fieldLink RX5 22 "SignQuorum$Sha256" "length" "I") (by decide +kernel)
  have hf36 := hts (.fieldLink RX5 36 "SignQuorum$Sha256" "FIRST_STATE" "[I") (by decide +kernel)
  refine lv_aload_n hx hb dX5_finish_0 rfl (lv_at hl 0 rfl) ?_
  refine va_get (D := E.1) (ci := 6) (v := .int (nI n)) (C := RX5) (T := TX5) (N := 4) hx hb hts hiX5 hown hev.1 (xro hR0 hap hS) 0 rfl rfl 3 (by decide) hf22 (fun _ h9 => h9) rfl dX5_finish_1 ?_
  refine lv_bipush (v := 9) hx hb dX5_finish_4 (by decide) ?_
  refine lv_iadd hx hb dX5_finish_6 ?_
  refine xtop (y := nI (n + 9)) ((nI_add n 9).trans (congrArg nI (by omega))) ?_
  refine lv_bipush (v := 64) hx hb dX5_finish_7 (by decide) ?_
  refine lv_icmp_gt (tgt := 17) hx hb dX5_finish_9 (by decide) (fun c1 => ?_) (fun c1 => ?_)
  · skip
    have kc1 : 64 < (n + 9) := (nI_ltI (a := 64) (b := (n + 9)) (by omega) (by omega)).mp c1
    refine lv_sipush (v := 128) hx hb dX5_finish_17 (by decide) ?_
    refine lv_istore_n (lv' := [(1, .int 128), (0, .ref h)]) hx hb dX5_finish_20 rfl hl (by decide) rfl (fun ls hl => ?_)
    refine lv_aload_n hx hb dX5_finish_21 rfl (lv_at hl 1 rfl) ?_
    refine lv_iload_n hx hb dX5_finish_22 rfl (lv_at hl 0 rfl) ?_
    have hP := hP.sub (ws' := [(ms, aB E 128 f)] ++ [(sc, aI E 64 fc), (sa, aI E 8 fa)]) [0, 1, 2] rfl
    have hD := hD.sub (ws' := [(ms, aB E 128 f)] ++ [(sc, aI E 64 fc), (sa, aI E 8 fa)]) [0, 1, 2] (by decide) rfl
    refine xcv (va_runV (As := [.int 128]) (rest := []) ⟨hx, hb, hml, hown, hts⟩ (kX5_closeMessage l E h ms sc sa n f 128 (by omega) (by decide) H.size) (cwV 1 hts gX5_finish_X5_closeMessage rfl rfl rfl (by decide +kernel) ⟨Nat.le_of_ble_eq_true rfl, Nat.le_of_ble_eq_true rfl⟩) ⟨CP.blind, (va_recv hev.1 (xro hR0 hap hS) (ci := 6) (q0 := 0) rfl rfl), (xpre hev hz hA hP hD hS hR0 hap [2] rfl)⟩ rfl rfl hl.1 rfl (lv_room (Nat.le_of_ble_eq_true rfl)) dX5_finish_23 ⟨Nat.le_of_ble_eq_true rfl, Nat.le_of_ble_eq_true rfl⟩) hP hD hS hA (fun w3 H locs h4 hP hD hS => ?_)
    obtain ⟨g5, rfl, h4⟩ := h4
    try dsimp only at h4
    have hP : va_P E.1 vwCl [(ms, aB E 128 g5), (sc, aI E 64 fc), (sa, aI E 8 fa)] H := hP
    have hD : va_D A [(ms, aB E 128 g5), (sc, aI E 64 fc), (sa, aI E 8 fa)] := hD
    refine va_gets hx hb hz.1.1 hS hown hf36 (fun _ h9 => h9) dX5_finish_26 ?_
    refine lv_iconst (v := 0) hx hb dX5_finish_29 (by decide) ?_
    refine lv_aload_n hx hb dX5_finish_30 rfl (lv_at hl 1 rfl) ?_
    refine va_get (D := E.1) (ci := 6) (v := .ref sa) (C := RX5) (T := TX5) (N := 4) hx hb hts hiX5 hown hev.1 (xro hR0 hap hS) 0 rfl rfl 2 (by decide) hf19 (fun _ h9 => h9) rfl dX5_finish_31 ?_
    refine lv_iconst (v := 0) hx hb dX5_finish_34 (by decide) ?_
    refine lv_bipush (v := 8) hx hb dX5_finish_35 (by decide) ?_
    refine xcopyT hx hb (by rw [hml]; exact hl.1.symm) hown hac1 hac2 hac3 hac4 hev.1 hP hD hS hz.1.2 2 1 rfl rfl (Nat.le_of_ble_eq_true rfl) (by decide +kernel) dX5_finish_37 (fun H locs hP hD hS => ?_)
    obtain ⟨f6, ef6⟩ : ∃ y9_ : Nat → Int32, y9_ = va_cpy sFS fa 0 0 8 := ⟨_, rfl⟩
    have hP : va_P E.1 vwCl [(ms, aB E 128 g5), (sc, aI E 64 fc), (sa, aI E 8 f6)] H := by rw [ef6]; exact hP
    have hD : va_D A [(ms, aB E 128 g5), (sc, aI E 64 fc), (sa, aI E 8 f6)] := by rw [ef6]; exact hD
    refine lv_iconst (v := 0) hx hb dX5_finish_40 (by decide) ?_
    refine lv_istore_n (lv' := [(2, .int 0), (1, .int 128), (0, .ref h)]) hx hb dX5_finish_41 rfl hl (by decide) rfl (fun ls hl => ?_)
    refine lv_iload_n hx hb dX5_finish_42 rfl (lv_at hl 0 rfl) ?_
    refine lv_iload_n hx hb dX5_finish_43 rfl (lv_at hl 1 rfl) ?_
    refine lv_icmp_ge (tgt := 62) hx hb dX5_finish_44 (by decide) (fun c7 => absurd c7 (by decide)) (fun c7 => ?_)
    refine lv_aload_n hx hb dX5_finish_47 rfl (lv_at hl 2 rfl) ?_
    refine lv_iload_n hx hb dX5_finish_48 rfl (lv_at hl 0 rfl) ?_
    have hP := hP.sub (ws' := [(sc, aI E 64 fc)] ++ [(ms, aB E 128 g5), (sa, aI E 8 f6)]) [1, 0, 2] rfl
    have hD := hD.sub (ws' := [(sc, aI E 64 fc)] ++ [(ms, aB E 128 g5), (sa, aI E 8 f6)]) [1, 0, 2] (by decide) rfl
    refine xcv (va_runV (As := [.int 0]) (rest := []) ⟨hx, hb, hml, hown, hts⟩ (kX5_fillSchedule l E h ms sc sa n g5 0 fc (by decide) H.size) (cwV 1 hts gX5_finish_X5_fillSchedule rfl rfl rfl (by decide +kernel) ⟨Nat.le_of_ble_eq_true rfl, Nat.le_of_ble_eq_true rfl⟩) ⟨CP.blind, (va_recv hev.1 (xro hR0 hap hS) (ci := 6) (q0 := 0) rfl rfl), (xpre hev hz hA hP hD hS hR0 hap [2, 0] rfl)⟩ rfl rfl hl.1 rfl (lv_room (Nat.le_of_ble_eq_true rfl)) dX5_finish_49 ⟨Nat.le_of_ble_eq_true rfl, Nat.le_of_ble_eq_true rfl⟩) hP hD hS hA (fun w9 H locs h10 hP hD hS => ?_)
    obtain ⟨gc11, rfl, h10⟩ := h10
    try dsimp only at h10
    have hP : va_P E.1 vwCl [(sc, aI E 64 gc11), (ms, aB E 128 g5), (sa, aI E 8 f6)] H := hP
    have hD : va_D A [(sc, aI E 64 gc11), (ms, aB E 128 g5), (sa, aI E 8 f6)] := hD
    refine lv_aload_n hx hb dX5_finish_52 rfl (lv_at hl 2 rfl) ?_
    have hP := hP.sub (ws' := [(sa, aI E 8 f6)] ++ [(sc, aI E 64 gc11), (ms, aB E 128 g5)]) [2, 0, 1] rfl
    have hD := hD.sub (ws' := [(sa, aI E 8 f6)] ++ [(sc, aI E 64 gc11), (ms, aB E 128 g5)]) [2, 0, 1] (by decide) rfl
    refine xcv (va_runV (As := []) (rest := []) ⟨hx, hb, hml, hown, hts⟩ (kX5_mixBlock l E h ms sc sa n gc11 f6  H.size) (cwV 0 hts gX5_finish_X5_mixBlock rfl rfl rfl (by decide +kernel) ⟨Nat.le_of_ble_eq_true rfl, Nat.le_of_ble_eq_true rfl⟩) ⟨CP.blind, (va_recv hev.1 (xro hR0 hap hS) (ci := 6) (q0 := 0) rfl rfl), (xpre hev hz hA hP hD hS hR0 hap [2, 0] rfl)⟩ rfl rfl hl.1 rfl (lv_room (Nat.le_of_ble_eq_true rfl)) dX5_finish_53 ⟨Nat.le_of_ble_eq_true rfl, Nat.le_of_ble_eq_true rfl⟩) hP hD hS hA (fun w13 H locs h14 hP hD hS => ?_)
    obtain ⟨ga15, rfl, h14⟩ := h14
    try dsimp only at h14
    have hP : va_P E.1 vwCl [(sa, aI E 8 ga15), (sc, aI E 64 gc11), (ms, aB E 128 g5)] H := hP
    have hD : va_D A [(sa, aI E 8 ga15), (sc, aI E 64 gc11), (ms, aB E 128 g5)] := hD
    refine lv_iinc (v := 64) (lv' := [(2, .int 64), (1, .int 128), (0, .ref h)]) hx hb dX5_finish_56 hl (k := 0) rfl (by decide) (by decide) rfl (fun ls hl => ?_)
    refine lv_goto (tgt := 42) hx hb dX5_finish_59 (by decide) ?_
    refine lv_iload_n hx hb dX5_finish_42 rfl (lv_at hl 0 rfl) ?_
    refine lv_iload_n hx hb dX5_finish_43 rfl (lv_at hl 1 rfl) ?_
    refine lv_icmp_ge (tgt := 62) hx hb dX5_finish_44 (by decide) (fun c16 => absurd c16 (by decide)) (fun c16 => ?_)
    refine lv_aload_n hx hb dX5_finish_47 rfl (lv_at hl 2 rfl) ?_
    refine lv_iload_n hx hb dX5_finish_48 rfl (lv_at hl 0 rfl) ?_
    have hP := hP.sub (ws' := [(sc, aI E 64 gc11)] ++ [(sa, aI E 8 ga15), (ms, aB E 128 g5)]) [1, 0, 2] rfl
    have hD := hD.sub (ws' := [(sc, aI E 64 gc11)] ++ [(sa, aI E 8 ga15), (ms, aB E 128 g5)]) [1, 0, 2] (by decide) rfl
    refine xcv (va_runV (As := [.int 64]) (rest := []) ⟨hx, hb, hml, hown, hts⟩ (kX5_fillSchedule l E h ms sc sa n g5 64 gc11 (by decide) H.size) (cwV 1 hts gX5_finish_X5_fillSchedule rfl rfl rfl (by decide +kernel) ⟨Nat.le_of_ble_eq_true rfl, Nat.le_of_ble_eq_true rfl⟩) ⟨CP.blind, (va_recv hev.1 (xro hR0 hap hS) (ci := 6) (q0 := 0) rfl rfl), (xpre hev hz hA hP hD hS hR0 hap [2, 1] rfl)⟩ rfl rfl hl.1 rfl (lv_room (Nat.le_of_ble_eq_true rfl)) dX5_finish_49 ⟨Nat.le_of_ble_eq_true rfl, Nat.le_of_ble_eq_true rfl⟩) hP hD hS hA (fun w18 H locs h19 hP hD hS => ?_)
    obtain ⟨gc20, rfl, h19⟩ := h19
    try dsimp only at h19
    have hP : va_P E.1 vwCl [(sc, aI E 64 gc20), (sa, aI E 8 ga15), (ms, aB E 128 g5)] H := hP
    have hD : va_D A [(sc, aI E 64 gc20), (sa, aI E 8 ga15), (ms, aB E 128 g5)] := hD
    refine lv_aload_n hx hb dX5_finish_52 rfl (lv_at hl 2 rfl) ?_
    have hP := hP.sub (ws' := [(sa, aI E 8 ga15)] ++ [(sc, aI E 64 gc20), (ms, aB E 128 g5)]) [1, 0, 2] rfl
    have hD := hD.sub (ws' := [(sa, aI E 8 ga15)] ++ [(sc, aI E 64 gc20), (ms, aB E 128 g5)]) [1, 0, 2] (by decide) rfl
    refine xcv (va_runV (As := []) (rest := []) ⟨hx, hb, hml, hown, hts⟩ (kX5_mixBlock l E h ms sc sa n gc20 ga15  H.size) (cwV 0 hts gX5_finish_X5_mixBlock rfl rfl rfl (by decide +kernel) ⟨Nat.le_of_ble_eq_true rfl, Nat.le_of_ble_eq_true rfl⟩) ⟨CP.blind, (va_recv hev.1 (xro hR0 hap hS) (ci := 6) (q0 := 0) rfl rfl), (xpre hev hz hA hP hD hS hR0 hap [2, 0] rfl)⟩ rfl rfl hl.1 rfl (lv_room (Nat.le_of_ble_eq_true rfl)) dX5_finish_53 ⟨Nat.le_of_ble_eq_true rfl, Nat.le_of_ble_eq_true rfl⟩) hP hD hS hA (fun w22 H locs h23 hP hD hS => ?_)
    obtain ⟨ga24, rfl, h23⟩ := h23
    try dsimp only at h23
    have hP : va_P E.1 vwCl [(sa, aI E 8 ga24), (sc, aI E 64 gc20), (ms, aB E 128 g5)] H := hP
    have hD : va_D A [(sa, aI E 8 ga24), (sc, aI E 64 gc20), (ms, aB E 128 g5)] := hD
    refine lv_iinc (v := 128) (lv' := [(2, .int 128), (1, .int 128), (0, .ref h)]) hx hb dX5_finish_56 hl (k := 0) rfl (by decide) (by decide) rfl (fun ls hl => ?_)
    refine lv_goto (tgt := 42) hx hb dX5_finish_59 (by decide) ?_
    refine lv_iload_n hx hb dX5_finish_42 rfl (lv_at hl 0 rfl) ?_
    refine lv_iload_n hx hb dX5_finish_43 rfl (lv_at hl 1 rfl) ?_
    refine lv_icmp_ge (tgt := 62) hx hb dX5_finish_44 (by decide) (fun c25 => ?_) (fun c25 => absurd (by decide) c25)
    refine xrv hx hb hr hlocks (hP.sub (ws' := [(ms, aB E 128 g5), (sc, aI E 64 gc20), (sa, aI E 8 ga24)]) [2, 1, 0] rfl) (hD.sub (ws' := [(ms, aB E 128 g5), (sc, aI E 64 gc20), (sa, aI E 8 ga24)]) [2, 1, 0] (by decide) rfl) hS ⟨g5, gc20, ga24, rfl, ?_⟩ dX5_finish_62
    have h1st := blk_of h14 h10 h4 (by decide) (fun i hi => by rw [ef6, cpy8 hi])
    have hlast := blk_of h23 h19 h4 (by decide) h1st
    unfold shaF
    rw [if_neg (by omega)]
    exact hlast
  · skip
    have kc1 : ¬ 64 < (n + 9) := fun h9 => c1 ((nI_ltI (a := 64) (b := (n + 9)) (by omega) (by omega)).mpr h9)
    refine lv_bipush (v := 64) hx hb dX5_finish_12 (by decide) ?_
    refine lv_goto (tgt := 20) hx hb dX5_finish_14 (by decide) ?_
    refine lv_istore_n (lv' := [(1, .int 64), (0, .ref h)]) hx hb dX5_finish_20 rfl hl (by decide) rfl (fun ls hl => ?_)
    refine lv_aload_n hx hb dX5_finish_21 rfl (lv_at hl 1 rfl) ?_
    refine lv_iload_n hx hb dX5_finish_22 rfl (lv_at hl 0 rfl) ?_
    have hP := hP.sub (ws' := [(ms, aB E 128 f)] ++ [(sc, aI E 64 fc), (sa, aI E 8 fa)]) [0, 1, 2] rfl
    have hD := hD.sub (ws' := [(ms, aB E 128 f)] ++ [(sc, aI E 64 fc), (sa, aI E 8 fa)]) [0, 1, 2] (by decide) rfl
    refine xcv (va_runV (As := [.int 64]) (rest := []) ⟨hx, hb, hml, hown, hts⟩ (kX5_closeMessage l E h ms sc sa n f 64 (by omega) (by decide) H.size) (cwV 1 hts gX5_finish_X5_closeMessage rfl rfl rfl (by decide +kernel) ⟨Nat.le_of_ble_eq_true rfl, Nat.le_of_ble_eq_true rfl⟩) ⟨CP.blind, (va_recv hev.1 (xro hR0 hap hS) (ci := 6) (q0 := 0) rfl rfl), (xpre hev hz hA hP hD hS hR0 hap [2] rfl)⟩ rfl rfl hl.1 rfl (lv_room (Nat.le_of_ble_eq_true rfl)) dX5_finish_23 ⟨Nat.le_of_ble_eq_true rfl, Nat.le_of_ble_eq_true rfl⟩) hP hD hS hA (fun w27 H locs h28 hP hD hS => ?_)
    obtain ⟨g29, rfl, h28⟩ := h28
    try dsimp only at h28
    have hP : va_P E.1 vwCl [(ms, aB E 128 g29), (sc, aI E 64 fc), (sa, aI E 8 fa)] H := hP
    have hD : va_D A [(ms, aB E 128 g29), (sc, aI E 64 fc), (sa, aI E 8 fa)] := hD
    refine va_gets hx hb hz.1.1 hS hown hf36 (fun _ h9 => h9) dX5_finish_26 ?_
    refine lv_iconst (v := 0) hx hb dX5_finish_29 (by decide) ?_
    refine lv_aload_n hx hb dX5_finish_30 rfl (lv_at hl 1 rfl) ?_
    refine va_get (D := E.1) (ci := 6) (v := .ref sa) (C := RX5) (T := TX5) (N := 4) hx hb hts hiX5 hown hev.1 (xro hR0 hap hS) 0 rfl rfl 2 (by decide) hf19 (fun _ h9 => h9) rfl dX5_finish_31 ?_
    refine lv_iconst (v := 0) hx hb dX5_finish_34 (by decide) ?_
    refine lv_bipush (v := 8) hx hb dX5_finish_35 (by decide) ?_
    refine xcopyT hx hb (by rw [hml]; exact hl.1.symm) hown hac1 hac2 hac3 hac4 hev.1 hP hD hS hz.1.2 2 1 rfl rfl (Nat.le_of_ble_eq_true rfl) (by decide +kernel) dX5_finish_37 (fun H locs hP hD hS => ?_)
    obtain ⟨f30, ef30⟩ : ∃ y9_ : Nat → Int32, y9_ = va_cpy sFS fa 0 0 8 := ⟨_, rfl⟩
    have hP : va_P E.1 vwCl [(ms, aB E 128 g29), (sc, aI E 64 fc), (sa, aI E 8 f30)] H := by rw [ef30]; exact hP
    have hD : va_D A [(ms, aB E 128 g29), (sc, aI E 64 fc), (sa, aI E 8 f30)] := by rw [ef30]; exact hD
    refine lv_iconst (v := 0) hx hb dX5_finish_40 (by decide) ?_
    refine lv_istore_n (lv' := [(2, .int 0), (1, .int 64), (0, .ref h)]) hx hb dX5_finish_41 rfl hl (by decide) rfl (fun ls hl => ?_)
    refine lv_iload_n hx hb dX5_finish_42 rfl (lv_at hl 0 rfl) ?_
    refine lv_iload_n hx hb dX5_finish_43 rfl (lv_at hl 1 rfl) ?_
    refine lv_icmp_ge (tgt := 62) hx hb dX5_finish_44 (by decide) (fun c31 => absurd c31 (by decide)) (fun c31 => ?_)
    refine lv_aload_n hx hb dX5_finish_47 rfl (lv_at hl 2 rfl) ?_
    refine lv_iload_n hx hb dX5_finish_48 rfl (lv_at hl 0 rfl) ?_
    have hP := hP.sub (ws' := [(sc, aI E 64 fc)] ++ [(ms, aB E 128 g29), (sa, aI E 8 f30)]) [1, 0, 2] rfl
    have hD := hD.sub (ws' := [(sc, aI E 64 fc)] ++ [(ms, aB E 128 g29), (sa, aI E 8 f30)]) [1, 0, 2] (by decide) rfl
    refine xcv (va_runV (As := [.int 0]) (rest := []) ⟨hx, hb, hml, hown, hts⟩ (kX5_fillSchedule l E h ms sc sa n g29 0 fc (by decide) H.size) (cwV 1 hts gX5_finish_X5_fillSchedule rfl rfl rfl (by decide +kernel) ⟨Nat.le_of_ble_eq_true rfl, Nat.le_of_ble_eq_true rfl⟩) ⟨CP.blind, (va_recv hev.1 (xro hR0 hap hS) (ci := 6) (q0 := 0) rfl rfl), (xpre hev hz hA hP hD hS hR0 hap [2, 0] rfl)⟩ rfl rfl hl.1 rfl (lv_room (Nat.le_of_ble_eq_true rfl)) dX5_finish_49 ⟨Nat.le_of_ble_eq_true rfl, Nat.le_of_ble_eq_true rfl⟩) hP hD hS hA (fun w33 H locs h34 hP hD hS => ?_)
    obtain ⟨gc35, rfl, h34⟩ := h34
    try dsimp only at h34
    have hP : va_P E.1 vwCl [(sc, aI E 64 gc35), (ms, aB E 128 g29), (sa, aI E 8 f30)] H := hP
    have hD : va_D A [(sc, aI E 64 gc35), (ms, aB E 128 g29), (sa, aI E 8 f30)] := hD
    refine lv_aload_n hx hb dX5_finish_52 rfl (lv_at hl 2 rfl) ?_
    have hP := hP.sub (ws' := [(sa, aI E 8 f30)] ++ [(sc, aI E 64 gc35), (ms, aB E 128 g29)]) [2, 0, 1] rfl
    have hD := hD.sub (ws' := [(sa, aI E 8 f30)] ++ [(sc, aI E 64 gc35), (ms, aB E 128 g29)]) [2, 0, 1] (by decide) rfl
    refine xcv (va_runV (As := []) (rest := []) ⟨hx, hb, hml, hown, hts⟩ (kX5_mixBlock l E h ms sc sa n gc35 f30  H.size) (cwV 0 hts gX5_finish_X5_mixBlock rfl rfl rfl (by decide +kernel) ⟨Nat.le_of_ble_eq_true rfl, Nat.le_of_ble_eq_true rfl⟩) ⟨CP.blind, (va_recv hev.1 (xro hR0 hap hS) (ci := 6) (q0 := 0) rfl rfl), (xpre hev hz hA hP hD hS hR0 hap [2, 0] rfl)⟩ rfl rfl hl.1 rfl (lv_room (Nat.le_of_ble_eq_true rfl)) dX5_finish_53 ⟨Nat.le_of_ble_eq_true rfl, Nat.le_of_ble_eq_true rfl⟩) hP hD hS hA (fun w37 H locs h38 hP hD hS => ?_)
    obtain ⟨ga39, rfl, h38⟩ := h38
    try dsimp only at h38
    have hP : va_P E.1 vwCl [(sa, aI E 8 ga39), (sc, aI E 64 gc35), (ms, aB E 128 g29)] H := hP
    have hD : va_D A [(sa, aI E 8 ga39), (sc, aI E 64 gc35), (ms, aB E 128 g29)] := hD
    refine lv_iinc (v := 64) (lv' := [(2, .int 64), (1, .int 64), (0, .ref h)]) hx hb dX5_finish_56 hl (k := 0) rfl (by decide) (by decide) rfl (fun ls hl => ?_)
    refine lv_goto (tgt := 42) hx hb dX5_finish_59 (by decide) ?_
    refine lv_iload_n hx hb dX5_finish_42 rfl (lv_at hl 0 rfl) ?_
    refine lv_iload_n hx hb dX5_finish_43 rfl (lv_at hl 1 rfl) ?_
    refine lv_icmp_ge (tgt := 62) hx hb dX5_finish_44 (by decide) (fun c40 => ?_) (fun c40 => absurd (by decide) c40)
    refine xrv hx hb hr hlocks (hP.sub (ws' := [(ms, aB E 128 g29), (sc, aI E 64 gc35), (sa, aI E 8 ga39)]) [2, 1, 0] rfl) (hD.sub (ws' := [(ms, aB E 128 g29), (sc, aI E 64 gc35), (sa, aI E 8 ga39)]) [2, 1, 0] (by decide) rfl) hS ⟨g29, gc35, ga39, rfl, ?_⟩ dX5_finish_62
    have hlast := blk_of h38 h34 h28 (by decide) (fun i hi => by rw [ef30, cpy8 hi])
    unfold shaF
    rw [if_pos (by omega)]
    exact hlast

abbrev pX5_copyWords (E : xE) (h : Nat) (ms : Nat) (sc : Nat) (sa : Nat) (n : Nat) (d : Nat) (fa : Nat → Int32) (fd : Nat → Int32) (w : va_W) : Prop := ∃ (gd : Nat → Int32), w = [(sa, aI E 8 fa), (d, aI E 8 gd)] ∧ (∀ i, i < 8 → gd i = fa i)
set_option maxHeartbeats 4000000 in
set_option maxRecDepth 100000 in
theorem kX5_copyWords (l : Launch) (E : xE) (h : Nat) (ms : Nat) (sc : Nat) (sa : Nat) (n : Nat) (d : Nat) (fa : Nat → Int32) (fd : Nat → Int32)  : KT l yX5_copyWords wsX5_copyWords 1 27 0 0 E [(sa, aI E 8 fa), (d, aI E 8 fd)] [(h, .inr (6, [.ref ms, .ref sc, .ref sa, .int (nI n)]))] [.ref h, .ref d] (QV E (pX5_copyWords E h ms sc sa n d fa fd)) := by
  refine KT.start (cc := cX5_copyWords) (maxL := 2) (ret := none) (by decide) rfl (Nat.le_of_ble_eq_true rfl) ?_
  intro p e s m below meth c A H hx hb hr hlocks hml hts hown hin hP hR0 hD hap hev hz hA hS ls hl
  have hl : lv_has ls 2 [(0, .ref h), (1, .ref d)] := hl
  have hiX5 : ∀ w ∈ wsX50, w ∈ wsX5_copyWords := by decide +kernel
  have hac1 := hts (.methodLink RX5 39 arraycopyName) (by decide +kernel)
  have hac2 := hts (.native arraycopyName) (by decide +kernel)
  have hac3 := hts (.static arraycopyName) (by decide +kernel)
  have hac4 := hts (.initialized "java/lang/System") (by decide +kernel)
  have hf19 := hts (.fieldLink RX5 19 "SignQuorum$Sha256" "state" "[I") (by decide +kernel)
  refine lv_aload_n hx hb dX5_copyWords_0 rfl (lv_at hl 1 rfl) ?_
  refine lv_ifnull hx hb dX5_copyWords_1 ?_
  refine lv_aload_n hx hb dX5_copyWords_4 rfl (lv_at hl 1 rfl) ?_
  refine va_alen (v := 8) hx hb hev.1 hP 1 1 rfl rfl rfl dX5_copyWords_5 ?_
  refine lv_bipush (v := 8) hx hb dX5_copyWords_6 (by decide) ?_
  refine lv_icmp_lt (tgt := 23) hx hb dX5_copyWords_8 (by decide) (fun c1 => absurd c1 (by decide)) (fun c1 => ?_)
  refine lv_aload_n hx hb dX5_copyWords_11 rfl (lv_at hl 0 rfl) ?_
  refine va_get (D := E.1) (ci := 6) (v := .ref sa) (C := RX5) (T := TX5) (N := 4) hx hb hts hiX5 hown hev.1 (xro hR0 hap hS) 0 rfl rfl 2 (by decide) hf19 (fun _ h9 => h9) rfl dX5_copyWords_12 ?_
  refine lv_iconst (v := 0) hx hb dX5_copyWords_15 (by decide) ?_
  refine lv_aload_n hx hb dX5_copyWords_16 rfl (lv_at hl 1 rfl) ?_
  refine lv_iconst (v := 0) hx hb dX5_copyWords_17 (by decide) ?_
  refine lv_bipush (v := 8) hx hb dX5_copyWords_18 (by decide) ?_
  refine va_copyi hx hb (by rw [hml]; exact hl.1.symm) hown hac1 hac2 hac3 hac4 hev.1 hP hD hS 0 1 1 1 rfl rfl rfl rfl rfl (by decide) (by decide) (by decide) (by decide) (by decide) (fun _ _ => rfl) (Nat.le_of_ble_eq_true rfl) (by decide +kernel) dX5_copyWords_20 (fun H locs hP hD hS => ?_)
  obtain ⟨f2, ef2⟩ : ∃ y9_ : Nat → Int32, y9_ = va_cpy fa fd 0 0 8 := ⟨_, rfl⟩
  have hP : va_P E.1 vwCl [(sa, aI E 8 fa), (d, aI E 8 f2)] H := by rw [ef2]; exact hP
  have hD : va_D A [(sa, aI E 8 fa), (d, aI E 8 f2)] := by rw [ef2]; exact hD
  refine xrv hx hb hr hlocks hP hD hS ⟨f2, rfl, ?_⟩ dX5_copyWords_23
  exact fun i hi => by rw [ef2, cpy8 hi]

