abbrev pX8_later (E : xE) (mo : Nat) (ad : Nat → Nat) (th : Int32) (kn : Nat) (rn : Nat) (mn : Nat) (dp : Nat) (a34 : Nat → Int32) (t : Nat) (r : Int32) (w : va_W) : Prop := w = [] ∧ r = ltr a34 t ∧ (True)
set_option maxHeartbeats 4000000 in
set_option maxRecDepth 100000 in
theorem kX8_later (l : Launch) (E : xE) (mo : Nat) (ad : Nat → Nat) (th : Int32) (kn : Nat) (rn : Nat) (mn : Nat) (dp : Nat) (a34 : Nat → Int32) (t : Nat) (ht : t < 64) : KT l yX8_later wsX8_later 1 21 0 0 E [] [(mo, .inr (9, mOb ad th (nI kn) (nI rn) (nI mn) (nI dp))), (ad 34, aI E 16 a34)] [.ref mo, .int (nI t)] (QI E (pX8_later E mo ad th kn rn mn dp a34 t)) := by
  refine KT.start (cc := cX8_later) (maxL := 4) (ret := (some .int)) (by decide) rfl (Nat.le_of_ble_eq_true rfl) ?_
  intro p e s m below meth c A H hx hb hr hlocks hml hts hown hin hP hR0 hD hap hev hz hA hS ls hl
  have hl : lv_has ls 4 [(0, .ref mo), (1, .int (nI t))] := hl
  have hiX8 : ∀ w ∈ wsX80, w ∈ wsX8_later := fun _ h => List.mem_cons_of_mem _ (List.mem_append_right _ h)
  have hf174 := hts (.fieldLink RX8 174 "SignQuorumModel" "word" "[I") (by decide +kernel)
  refine lv_aload_n hx hb dX8_later_0 rfl (lv_at hl 0 rfl) ?_
  refine xgt TX8_34 (v := .ref (ad 34)) hx hb hts hiX8 hown hev.1 (xro hR0 hap hS) 0 rfl (by decide) hf174 rfl dX8_later_1 ?_
  refine lv_iload_n hx hb dX8_later_4 rfl (lv_at hl 1 rfl) ?_
  refine lv_iconst (v := 1) hx hb dX8_later_5 (by decide) ?_
  refine lv_iadd hx hb dX8_later_6 ?_
  refine xtop (y := nI (t + 1)) ((nI_add t 1).trans (congrArg nI (by omega))) ?_
  refine lv_bipush (v := 15) hx hb dX8_later_7 (by decide) ?_
  refine lv_iand hx hb dX8_later_9 ?_
  refine xtop (y := nI ((t + 1) % 16)) (pk_andN (n := (t + 1)) (by omega) 4 (by decide)) ?_
  refine xiald (k := ((t + 1) % 16)) hx hb hev.1 (xro hR0 hap hS) 1 1 rfl rfl (by omega) (by decide) dX8_later_10 ?_
  refine lv_istore_n (lv' := [(2, .int (a34 ((t + 1) % 16))), (0, .ref mo), (1, .int (nI t))]) hx hb dX8_later_11 rfl hl (by decide) rfl (fun ls hl => ?_)
  refine lv_aload_n hx hb dX8_later_12 rfl (lv_at hl 1 rfl) ?_
  refine xgt TX8_34 (v := .ref (ad 34)) hx hb hts hiX8 hown hev.1 (xro hR0 hap hS) 0 rfl (by decide) hf174 rfl dX8_later_13 ?_
  refine lv_iload_n hx hb dX8_later_16 rfl (lv_at hl 2 rfl) ?_
  refine lv_bipush (v := 14) hx hb dX8_later_17 (by decide) ?_
  refine lv_iadd hx hb dX8_later_19 ?_
  refine xtop (y := nI (t + 14)) ((nI_add t 14).trans (congrArg nI (by omega))) ?_
  refine lv_bipush (v := 15) hx hb dX8_later_20 (by decide) ?_
  refine lv_iand hx hb dX8_later_22 ?_
  refine xtop (y := nI ((t + 14) % 16)) (pk_andN (n := (t + 14)) (by omega) 4 (by decide)) ?_
  refine xiald (k := ((t + 14) % 16)) hx hb hev.1 (xro hR0 hap hS) 1 1 rfl rfl (by omega) (by decide) dX8_later_23 ?_
  refine lv_istore_n (lv' := [(3, .int (a34 ((t + 14) % 16))), (2, .int (a34 ((t + 1) % 16))), (0, .ref mo), (1, .int (nI t))]) hx hb dX8_later_24 rfl hl (by decide) rfl (fun ls hl => ?_)
  refine lv_aload_n hx hb dX8_later_25 rfl (lv_at hl 2 rfl) ?_
  refine xgt TX8_34 (v := .ref (ad 34)) hx hb hts hiX8 hown hev.1 (xro hR0 hap hS) 0 rfl (by decide) hf174 rfl dX8_later_26 ?_
  refine lv_iload_n hx hb dX8_later_29 rfl (lv_at hl 3 rfl) ?_
  refine lv_bipush (v := 15) hx hb dX8_later_30 (by decide) ?_
  refine lv_iand hx hb dX8_later_32 ?_
  refine xtop (y := nI (t % 16)) (pk_andN (n := t) (by omega) 4 (by decide)) ?_
  refine xiald (k := (t % 16)) hx hb hev.1 (xro hR0 hap hS) 1 1 rfl rfl (by omega) (by decide) dX8_later_33 ?_
  refine lv_aload_n hx hb dX8_later_34 rfl (lv_at hl 2 rfl) ?_
  refine xgt TX8_34 (v := .ref (ad 34)) hx hb hts hiX8 hown hev.1 (xro hR0 hap hS) 0 rfl (by decide) hf174 rfl dX8_later_35 ?_
  refine lv_iload_n hx hb dX8_later_38 rfl (lv_at hl 3 rfl) ?_
  refine lv_bipush (v := 9) hx hb dX8_later_39 (by decide) ?_
  refine lv_iadd hx hb dX8_later_41 ?_
  refine xtop (y := nI (t + 9)) ((nI_add t 9).trans (congrArg nI (by omega))) ?_
  refine lv_bipush (v := 15) hx hb dX8_later_42 (by decide) ?_
  refine lv_iand hx hb dX8_later_44 ?_
  refine xtop (y := nI ((t + 9) % 16)) (pk_andN (n := (t + 9)) (by omega) 4 (by decide)) ?_
  refine xiald (k := ((t + 9) % 16)) hx hb hev.1 (xro hR0 hap hS) 1 1 rfl rfl (by omega) (by decide) dX8_later_45 ?_
  refine lv_iadd hx hb dX8_later_46 ?_
  refine lv_iload_n hx hb dX8_later_47 rfl (lv_at hl 1 rfl) ?_
  refine lv_bipush (v := 7) hx hb dX8_later_48 (by decide) ?_
  have hP := hP.sub (ws' := [] ++ []) [] rfl
  have hD := hD.sub (ws' := [] ++ []) [] (by decide) rfl
  refine xci (va_runS (As := [.int (a34 ((t + 1) % 16)), .int 7]) (rest := [.int ((a34 (t % 16)) + (a34 ((t + 9) % 16)))]) ⟨hx, hb, hml, hown, hts⟩ (kX8_turned l E (a34 ((t + 1) % 16)) 7  H.size) (va_cwS 2 hts gX8_later_X8_turned rfl rfl rfl (by decide +kernel) ⟨Nat.le_of_ble_eq_true rfl, Nat.le_of_ble_eq_true rfl⟩) ⟨CP.blind, (xpre hev hz hA hP hD hS hR0 hap [] rfl)⟩ rfl rfl hl.1 rfl (lv_room (Nat.le_of_ble_eq_true rfl)) dX8_later_50 ⟨Nat.le_of_ble_eq_true rfl, Nat.le_of_ble_eq_true rfl⟩) hP hD hS hA (fun r1 w2 H locs h3 hP hD hS => ?_)
  obtain ⟨rfl, rfl, h3⟩ := h3
  try dsimp only at h3
  have hP : va_P E.1 vwCl [] H := hP
  have hD : va_D A [] := hD
  refine lv_iload_n hx hb dX8_later_53 rfl (lv_at hl 1 rfl) ?_
  refine lv_bipush (v := 18) hx hb dX8_later_54 (by decide) ?_
  have hP := hP.sub (ws' := [] ++ []) [] rfl
  have hD := hD.sub (ws' := [] ++ []) [] (by decide) rfl
  refine xci (va_runS (As := [.int (a34 ((t + 1) % 16)), .int 18]) (rest := [.int (turn (a34 ((t + 1) % 16)) 7), .int ((a34 (t % 16)) + (a34 ((t + 9) % 16)))]) ⟨hx, hb, hml, hown, hts⟩ (kX8_turned l E (a34 ((t + 1) % 16)) 18  H.size) (va_cwS 2 hts gX8_later_X8_turned rfl rfl rfl (by decide +kernel) ⟨Nat.le_of_ble_eq_true rfl, Nat.le_of_ble_eq_true rfl⟩) ⟨CP.blind, (xpre hev hz hA hP hD hS hR0 hap [] rfl)⟩ rfl rfl hl.1 rfl (lv_room (Nat.le_of_ble_eq_true rfl)) dX8_later_56 ⟨Nat.le_of_ble_eq_true rfl, Nat.le_of_ble_eq_true rfl⟩) hP hD hS hA (fun r4 w5 H locs h6 hP hD hS => ?_)
  obtain ⟨rfl, rfl, h6⟩ := h6
  try dsimp only at h6
  have hP : va_P E.1 vwCl [] H := hP
  have hD : va_D A [] := hD
  refine lv_ixor hx hb dX8_later_59 ?_
  refine lv_iload_n hx hb dX8_later_60 rfl (lv_at hl 1 rfl) ?_
  refine lv_iconst (v := 3) hx hb dX8_later_61 (by decide) ?_
  refine lv_iushr (v := ((a34 ((t + 1) % 16)).toUInt32 >>> ((3 : Int32).toUInt32 &&& Int32.toUInt32 31)).toInt32) hx hb dX8_later_62 rfl ?_
  refine lv_ixor hx hb dX8_later_63 ?_
  refine lv_topi (fun v7 ev7 => ?_)
  refine lv_iadd hx hb dX8_later_64 ?_
  refine lv_iload_n hx hb dX8_later_65 rfl (lv_at hl 0 rfl) ?_
  refine lv_bipush (v := 17) hx hb dX8_later_66 (by decide) ?_
  have hP := hP.sub (ws' := [] ++ []) [] rfl
  have hD := hD.sub (ws' := [] ++ []) [] (by decide) rfl
  refine xci (va_runS (As := [.int (a34 ((t + 14) % 16)), .int 17]) (rest := [.int (((a34 (t % 16)) + (a34 ((t + 9) % 16))) + v7)]) ⟨hx, hb, hml, hown, hts⟩ (kX8_turned l E (a34 ((t + 14) % 16)) 17  H.size) (va_cwS 2 hts gX8_later_X8_turned rfl rfl rfl (by decide +kernel) ⟨Nat.le_of_ble_eq_true rfl, Nat.le_of_ble_eq_true rfl⟩) ⟨CP.blind, (xpre hev hz hA hP hD hS hR0 hap [] rfl)⟩ rfl rfl hl.1 rfl (lv_room (Nat.le_of_ble_eq_true rfl)) dX8_later_68 ⟨Nat.le_of_ble_eq_true rfl, Nat.le_of_ble_eq_true rfl⟩) hP hD hS hA (fun r8 w9 H locs h10 hP hD hS => ?_)
  obtain ⟨rfl, rfl, h10⟩ := h10
  try dsimp only at h10
  have hP : va_P E.1 vwCl [] H := hP
  have hD : va_D A [] := hD
  refine lv_iload_n hx hb dX8_later_71 rfl (lv_at hl 0 rfl) ?_
  refine lv_bipush (v := 19) hx hb dX8_later_72 (by decide) ?_
  have hP := hP.sub (ws' := [] ++ []) [] rfl
  have hD := hD.sub (ws' := [] ++ []) [] (by decide) rfl
  refine xci (va_runS (As := [.int (a34 ((t + 14) % 16)), .int 19]) (rest := [.int (turn (a34 ((t + 14) % 16)) 17), .int (((a34 (t % 16)) + (a34 ((t + 9) % 16))) + v7)]) ⟨hx, hb, hml, hown, hts⟩ (kX8_turned l E (a34 ((t + 14) % 16)) 19  H.size) (va_cwS 2 hts gX8_later_X8_turned rfl rfl rfl (by decide +kernel) ⟨Nat.le_of_ble_eq_true rfl, Nat.le_of_ble_eq_true rfl⟩) ⟨CP.blind, (xpre hev hz hA hP hD hS hR0 hap [] rfl)⟩ rfl rfl hl.1 rfl (lv_room (Nat.le_of_ble_eq_true rfl)) dX8_later_74 ⟨Nat.le_of_ble_eq_true rfl, Nat.le_of_ble_eq_true rfl⟩) hP hD hS hA (fun r11 w12 H locs h13 hP hD hS => ?_)
  obtain ⟨rfl, rfl, h13⟩ := h13
  try dsimp only at h13
  have hP : va_P E.1 vwCl [] H := hP
  have hD : va_D A [] := hD
  refine lv_ixor hx hb dX8_later_77 ?_
  refine lv_iload_n hx hb dX8_later_78 rfl (lv_at hl 0 rfl) ?_
  refine lv_bipush (v := 10) hx hb dX8_later_79 (by decide) ?_
  refine lv_iushr (v := ((a34 ((t + 14) % 16)).toUInt32 >>> ((10 : Int32).toUInt32 &&& Int32.toUInt32 31)).toInt32) hx hb dX8_later_81 rfl ?_
  refine lv_ixor hx hb dX8_later_82 ?_
  refine lv_topi (fun v14 ev14 => ?_)
  refine lv_iadd hx hb dX8_later_83 ?_
  refine xri hx hb hr hlocks hP hD hS ⟨rfl, ?_, ?_⟩ dX8_later_84
  · first | rfl | (subst_vars; rfl)
  · trivial

abbrev pX8_step (E : xE) (mo : Nat) (ad : Nat → Nat) (th : Int32) (kn : Nat) (rn : Nat) (mn : Nat) (dp : Nat) (a33 : Nat → Int32) (a34 : Nat → Int32) (a35 : Nat → Int32) (t : Nat) (w : va_W) : Prop := ∃ (g34 : Nat → Int32) (g35 : Nat → Int32), w = [(ad 34, aI E 16 g34), (ad 35, aI E 8 g35)] ∧ (g35 = upd (upd a35 ((64 - t + 3) % 8) (a35 ((64 - t + 3) % 8) + mone a35 a34 (a33 t) t)) ((64 - t + 7) % 8) (mone a35 a34 (a33 t) t + mtwo a35 t) ∧ g34 = upd a34 (t % 16) (ltr a34 t))
set_option maxHeartbeats 8000000 in
set_option maxRecDepth 100000 in
theorem kX8_step (l : Launch) (E : xE) (mo : Nat) (ad : Nat → Nat) (th : Int32) (kn : Nat) (rn : Nat) (mn : Nat) (dp : Nat) (a33 : Nat → Int32) (a34 : Nat → Int32) (a35 : Nat → Int32) (t : Nat) (ht : t < 64) : KT l yX8_step wsX8_step 2 44 0 0 E [(ad 34, aI E 16 a34), (ad 35, aI E 8 a35)] [(mo, .inr (9, mOb ad th (nI kn) (nI rn) (nI mn) (nI dp))), (ad 33, aI E 64 a33)] [.ref mo, .int (nI t)] (QV E (pX8_step E mo ad th kn rn mn dp a33 a34 a35 t)) := by
  refine KT.start (cc := cX8_step) (maxL := 11) (ret := none) (by decide) rfl (Nat.le_of_ble_eq_true rfl) ?_
  intro p e s m below meth c A H hx hb hr hlocks hml hts hown hin hP hR0 hD hap hev hz hA hS ls hl
  have hl : lv_has ls 11 [(0, .ref mo), (1, .int (nI t))] := hl
  have hiX8 : ∀ w ∈ wsX80, w ∈ wsX8_step := fun _ h => List.mem_cons_of_mem _ (List.mem_append_right _ h)
  have hf171 := hts (.fieldLink RX8 171 "SignQuorumModel" "steps" "[I") (by decide +kernel)
  have hf174 := hts (.fieldLink RX8 174 "SignQuorumModel" "word" "[I") (by decide +kernel)
  have hf177 := hts (.fieldLink RX8 177 "SignQuorumModel" "state" "[I") (by decide +kernel)
  refine lv_bipush (v := 64) hx hb dX8_step_0 (by decide) ?_
  refine lv_iload_n hx hb dX8_step_2 rfl (lv_at hl 1 rfl) ?_
  refine lv_isub hx hb dX8_step_3 ?_
  refine xtop (y := nI (64 - t)) (pk_sub (a := 64) (b := t) (by omega)) ?_
  refine lv_istore_n (lv' := [(2, .int (nI (64 - t))), (0, .ref mo), (1, .int (nI t))]) hx hb dX8_step_4 rfl hl (by decide) rfl (fun ls hl => ?_)
  refine lv_aload_n hx hb dX8_step_5 rfl (lv_at hl 1 rfl) ?_
  refine xgt TX8_35 (v := .ref (ad 35)) hx hb hts hiX8 hown hev.1 (xro hR0 hap hS) 0 rfl (by decide) hf177 rfl dX8_step_6 ?_
  refine lv_iload_n hx hb dX8_step_9 rfl (lv_at hl 0 rfl) ?_
  refine lv_iconst (v := 4) hx hb dX8_step_10 (by decide) ?_
  refine lv_iadd hx hb dX8_step_11 ?_
  refine xtop (y := nI ((64 - t) + 4)) ((nI_add (64 - t) 4).trans (congrArg nI (by omega))) ?_
  refine lv_bipush (v := 7) hx hb dX8_step_12 (by decide) ?_
  refine lv_iand hx hb dX8_step_14 ?_
  refine xtop (y := nI (((64 - t) + 4) % 8)) (pk_andN (n := ((64 - t) + 4)) (by omega) 3 (by decide)) ?_
  refine xiald (k := (((64 - t) + 4) % 8)) hx hb hev.1 hP 1 1 rfl rfl (by omega) (by decide) dX8_step_15 ?_
  refine lv_istore_n (lv' := [(3, .int (a35 (((64 - t) + 4) % 8))), (2, .int (nI (64 - t))), (0, .ref mo), (1, .int (nI t))]) hx hb dX8_step_16 rfl hl (by decide) rfl (fun ls hl => ?_)
  refine lv_aload_n hx hb dX8_step_17 rfl (lv_at hl 2 rfl) ?_
  refine xgt TX8_35 (v := .ref (ad 35)) hx hb hts hiX8 hown hev.1 (xro hR0 hap hS) 0 rfl (by decide) hf177 rfl dX8_step_18 ?_
  refine lv_iload_n hx hb dX8_step_21 rfl (lv_at hl 1 rfl) ?_
  refine lv_iconst (v := 5) hx hb dX8_step_22 (by decide) ?_
  refine lv_iadd hx hb dX8_step_23 ?_
  refine xtop (y := nI ((64 - t) + 5)) ((nI_add (64 - t) 5).trans (congrArg nI (by omega))) ?_
  refine lv_bipush (v := 7) hx hb dX8_step_24 (by decide) ?_
  refine lv_iand hx hb dX8_step_26 ?_
  refine xtop (y := nI (((64 - t) + 5) % 8)) (pk_andN (n := ((64 - t) + 5)) (by omega) 3 (by decide)) ?_
  refine xiald (k := (((64 - t) + 5) % 8)) hx hb hev.1 hP 1 1 rfl rfl (by omega) (by decide) dX8_step_27 ?_
  refine lv_istore (lv' := [(4, .int (a35 (((64 - t) + 5) % 8))), (3, .int (a35 (((64 - t) + 4) % 8))), (2, .int (nI (64 - t))), (0, .ref mo), (1, .int (nI t))]) hx hb dX8_step_28 hl (by decide) rfl (fun ls hl => ?_)
  refine lv_aload_n hx hb dX8_step_30 rfl (lv_at hl 3 rfl) ?_
  refine xgt TX8_35 (v := .ref (ad 35)) hx hb hts hiX8 hown hev.1 (xro hR0 hap hS) 0 rfl (by decide) hf177 rfl dX8_step_31 ?_
  refine lv_iload_n hx hb dX8_step_34 rfl (lv_at hl 2 rfl) ?_
  refine lv_bipush (v := 6) hx hb dX8_step_35 (by decide) ?_
  refine lv_iadd hx hb dX8_step_37 ?_
  refine xtop (y := nI ((64 - t) + 6)) ((nI_add (64 - t) 6).trans (congrArg nI (by omega))) ?_
  refine lv_bipush (v := 7) hx hb dX8_step_38 (by decide) ?_
  refine lv_iand hx hb dX8_step_40 ?_
  refine xtop (y := nI (((64 - t) + 6) % 8)) (pk_andN (n := ((64 - t) + 6)) (by omega) 3 (by decide)) ?_
  refine xiald (k := (((64 - t) + 6) % 8)) hx hb hev.1 hP 1 1 rfl rfl (by omega) (by decide) dX8_step_41 ?_
  refine lv_istore (lv' := [(5, .int (a35 (((64 - t) + 6) % 8))), (4, .int (a35 (((64 - t) + 5) % 8))), (3, .int (a35 (((64 - t) + 4) % 8))), (2, .int (nI (64 - t))), (0, .ref mo), (1, .int (nI t))]) hx hb dX8_step_42 hl (by decide) rfl (fun ls hl => ?_)
  refine lv_aload_n hx hb dX8_step_44 rfl (lv_at hl 4 rfl) ?_
  refine xgt TX8_35 (v := .ref (ad 35)) hx hb hts hiX8 hown hev.1 (xro hR0 hap hS) 0 rfl (by decide) hf177 rfl dX8_step_45 ?_
  refine lv_iload_n hx hb dX8_step_48 rfl (lv_at hl 3 rfl) ?_
  refine lv_bipush (v := 7) hx hb dX8_step_49 (by decide) ?_
  refine lv_iand hx hb dX8_step_51 ?_
  refine xtop (y := nI ((64 - t) % 8)) (pk_andN (n := (64 - t)) (by omega) 3 (by decide)) ?_
  refine xiald (k := ((64 - t) % 8)) hx hb hev.1 hP 1 1 rfl rfl (by omega) (by decide) dX8_step_52 ?_
  refine lv_istore (lv' := [(6, .int (a35 ((64 - t) % 8))), (5, .int (a35 (((64 - t) + 6) % 8))), (4, .int (a35 (((64 - t) + 5) % 8))), (3, .int (a35 (((64 - t) + 4) % 8))), (2, .int (nI (64 - t))), (0, .ref mo), (1, .int (nI t))]) hx hb dX8_step_53 hl (by decide) rfl (fun ls hl => ?_)
  refine lv_aload_n hx hb dX8_step_55 rfl (lv_at hl 5 rfl) ?_
  refine xgt TX8_35 (v := .ref (ad 35)) hx hb hts hiX8 hown hev.1 (xro hR0 hap hS) 0 rfl (by decide) hf177 rfl dX8_step_56 ?_
  refine lv_iload_n hx hb dX8_step_59 rfl (lv_at hl 4 rfl) ?_
  refine lv_iconst (v := 1) hx hb dX8_step_60 (by decide) ?_
  refine lv_iadd hx hb dX8_step_61 ?_
  refine xtop (y := nI ((64 - t) + 1)) ((nI_add (64 - t) 1).trans (congrArg nI (by omega))) ?_
  refine lv_bipush (v := 7) hx hb dX8_step_62 (by decide) ?_
  refine lv_iand hx hb dX8_step_64 ?_
  refine xtop (y := nI (((64 - t) + 1) % 8)) (pk_andN (n := ((64 - t) + 1)) (by omega) 3 (by decide)) ?_
  refine xiald (k := (((64 - t) + 1) % 8)) hx hb hev.1 hP 1 1 rfl rfl (by omega) (by decide) dX8_step_65 ?_
  refine lv_istore (lv' := [(7, .int (a35 (((64 - t) + 1) % 8))), (6, .int (a35 ((64 - t) % 8))), (5, .int (a35 (((64 - t) + 6) % 8))), (4, .int (a35 (((64 - t) + 5) % 8))), (3, .int (a35 (((64 - t) + 4) % 8))), (2, .int (nI (64 - t))), (0, .ref mo), (1, .int (nI t))]) hx hb dX8_step_66 hl (by decide) rfl (fun ls hl => ?_)
  refine lv_aload_n hx hb dX8_step_68 rfl (lv_at hl 6 rfl) ?_
  refine xgt TX8_35 (v := .ref (ad 35)) hx hb hts hiX8 hown hev.1 (xro hR0 hap hS) 0 rfl (by decide) hf177 rfl dX8_step_69 ?_
  refine lv_iload_n hx hb dX8_step_72 rfl (lv_at hl 5 rfl) ?_
  refine lv_iconst (v := 2) hx hb dX8_step_73 (by decide) ?_
  refine lv_iadd hx hb dX8_step_74 ?_
  refine xtop (y := nI ((64 - t) + 2)) ((nI_add (64 - t) 2).trans (congrArg nI (by omega))) ?_
  refine lv_bipush (v := 7) hx hb dX8_step_75 (by decide) ?_
  refine lv_iand hx hb dX8_step_77 ?_
  refine xtop (y := nI (((64 - t) + 2) % 8)) (pk_andN (n := ((64 - t) + 2)) (by omega) 3 (by decide)) ?_
  refine xiald (k := (((64 - t) + 2) % 8)) hx hb hev.1 hP 1 1 rfl rfl (by omega) (by decide) dX8_step_78 ?_
  refine lv_istore (lv' := [(8, .int (a35 (((64 - t) + 2) % 8))), (7, .int (a35 (((64 - t) + 1) % 8))), (6, .int (a35 ((64 - t) % 8))), (5, .int (a35 (((64 - t) + 6) % 8))), (4, .int (a35 (((64 - t) + 5) % 8))), (3, .int (a35 (((64 - t) + 4) % 8))), (2, .int (nI (64 - t))), (0, .ref mo), (1, .int (nI t))]) hx hb dX8_step_79 hl (by decide) rfl (fun ls hl => ?_)
  refine lv_aload_n hx hb dX8_step_81 rfl (lv_at hl 7 rfl) ?_
  refine xgt TX8_35 (v := .ref (ad 35)) hx hb hts hiX8 hown hev.1 (xro hR0 hap hS) 0 rfl (by decide) hf177 rfl dX8_step_82 ?_
  refine lv_iload_n hx hb dX8_step_85 rfl (lv_at hl 6 rfl) ?_
  refine lv_bipush (v := 7) hx hb dX8_step_86 (by decide) ?_
  refine lv_iadd hx hb dX8_step_88 ?_
  refine xtop (y := nI ((64 - t) + 7)) ((nI_add (64 - t) 7).trans (congrArg nI (by omega))) ?_
  refine lv_bipush (v := 7) hx hb dX8_step_89 (by decide) ?_
  refine lv_iand hx hb dX8_step_91 ?_
  refine xtop (y := nI (((64 - t) + 7) % 8)) (pk_andN (n := ((64 - t) + 7)) (by omega) 3 (by decide)) ?_
  refine xiald (k := (((64 - t) + 7) % 8)) hx hb hev.1 hP 1 1 rfl rfl (by omega) (by decide) dX8_step_92 ?_
  refine lv_iload_n hx hb dX8_step_93 rfl (lv_at hl 5 rfl) ?_
  refine lv_bipush (v := 6) hx hb dX8_step_94 (by decide) ?_
  have hP := hP.sub (ws' := [] ++ [(ad 34, aI E 16 a34), (ad 35, aI E 8 a35)]) [0, 1] rfl
  have hD := hD.sub (ws' := [] ++ [(ad 34, aI E 16 a34), (ad 35, aI E 8 a35)]) [0, 1] (by decide) rfl
  refine xci (va_runS (As := [.int (a35 (((64 - t) + 4) % 8)), .int 6]) (rest := [.int (a35 (((64 - t) + 7) % 8))]) ⟨hx, hb, hml, hown, hts⟩ (kX8_turned l E (a35 (((64 - t) + 4) % 8)) 6  H.size) (va_cwS 2 hts gX8_step_X8_turned rfl rfl rfl (by decide +kernel) ⟨Nat.le_of_ble_eq_true rfl, Nat.le_of_ble_eq_true rfl⟩) ⟨CP.blind, (xpre hev hz hA hP hD hS hR0 hap [] rfl)⟩ rfl rfl hl.1 rfl (lv_room (Nat.le_of_ble_eq_true rfl)) dX8_step_96 ⟨Nat.le_of_ble_eq_true rfl, Nat.le_of_ble_eq_true rfl⟩) hP hD hS hA (fun r1 w2 H locs h3 hP hD hS => ?_)
  obtain ⟨rfl, rfl, h3⟩ := h3
  try dsimp only at h3
  have hP : va_P E.1 vwCl [(ad 34, aI E 16 a34), (ad 35, aI E 8 a35)] H := hP
  have hD : va_D A [(ad 34, aI E 16 a34), (ad 35, aI E 8 a35)] := hD
  refine lv_iload_n hx hb dX8_step_99 rfl (lv_at hl 5 rfl) ?_
  refine lv_bipush (v := 11) hx hb dX8_step_100 (by decide) ?_
  have hP := hP.sub (ws' := [] ++ [(ad 34, aI E 16 a34), (ad 35, aI E 8 a35)]) [0, 1] rfl
  have hD := hD.sub (ws' := [] ++ [(ad 34, aI E 16 a34), (ad 35, aI E 8 a35)]) [0, 1] (by decide) rfl
  refine xci (va_runS (As := [.int (a35 (((64 - t) + 4) % 8)), .int 11]) (rest := [.int (turn (a35 (((64 - t) + 4) % 8)) 6), .int (a35 (((64 - t) + 7) % 8))]) ⟨hx, hb, hml, hown, hts⟩ (kX8_turned l E (a35 (((64 - t) + 4) % 8)) 11  H.size) (va_cwS 2 hts gX8_step_X8_turned rfl rfl rfl (by decide +kernel) ⟨Nat.le_of_ble_eq_true rfl, Nat.le_of_ble_eq_true rfl⟩) ⟨CP.blind, (xpre hev hz hA hP hD hS hR0 hap [] rfl)⟩ rfl rfl hl.1 rfl (lv_room (Nat.le_of_ble_eq_true rfl)) dX8_step_102 ⟨Nat.le_of_ble_eq_true rfl, Nat.le_of_ble_eq_true rfl⟩) hP hD hS hA (fun r4 w5 H locs h6 hP hD hS => ?_)
  obtain ⟨rfl, rfl, h6⟩ := h6
  try dsimp only at h6
  have hP : va_P E.1 vwCl [(ad 34, aI E 16 a34), (ad 35, aI E 8 a35)] H := hP
  have hD : va_D A [(ad 34, aI E 16 a34), (ad 35, aI E 8 a35)] := hD
  refine lv_ixor hx hb dX8_step_105 ?_
  refine lv_iload_n hx hb dX8_step_106 rfl (lv_at hl 5 rfl) ?_
  refine lv_bipush (v := 25) hx hb dX8_step_107 (by decide) ?_
  have hP := hP.sub (ws' := [] ++ [(ad 34, aI E 16 a34), (ad 35, aI E 8 a35)]) [0, 1] rfl
  have hD := hD.sub (ws' := [] ++ [(ad 34, aI E 16 a34), (ad 35, aI E 8 a35)]) [0, 1] (by decide) rfl
  refine xci (va_runS (As := [.int (a35 (((64 - t) + 4) % 8)), .int 25]) (rest := [.int ((turn (a35 (((64 - t) + 4) % 8)) 6) ^^^ (turn (a35 (((64 - t) + 4) % 8)) 11)), .int (a35 (((64 - t) + 7) % 8))]) ⟨hx, hb, hml, hown, hts⟩ (kX8_turned l E (a35 (((64 - t) + 4) % 8)) 25  H.size) (va_cwS 2 hts gX8_step_X8_turned rfl rfl rfl (by decide +kernel) ⟨Nat.le_of_ble_eq_true rfl, Nat.le_of_ble_eq_true rfl⟩) ⟨CP.blind, (xpre hev hz hA hP hD hS hR0 hap [] rfl)⟩ rfl rfl hl.1 rfl (lv_room (Nat.le_of_ble_eq_true rfl)) dX8_step_109 ⟨Nat.le_of_ble_eq_true rfl, Nat.le_of_ble_eq_true rfl⟩) hP hD hS hA (fun r7 w8 H locs h9 hP hD hS => ?_)
  obtain ⟨rfl, rfl, h9⟩ := h9
  try dsimp only at h9
  have hP : va_P E.1 vwCl [(ad 34, aI E 16 a34), (ad 35, aI E 8 a35)] H := hP
  have hD : va_D A [(ad 34, aI E 16 a34), (ad 35, aI E 8 a35)] := hD
  refine lv_ixor hx hb dX8_step_112 ?_
  refine lv_topi (fun v10 ev10 => ?_)
  refine lv_iadd hx hb dX8_step_113 ?_
  refine lv_iload hx hb dX8_step_114 (lv_at hl 3 rfl) ?_
  refine lv_iload_n hx hb dX8_step_116 rfl (lv_at hl 5 rfl) ?_
  refine lv_iload hx hb dX8_step_117 (lv_at hl 4 rfl) ?_
  refine lv_iload hx hb dX8_step_119 (lv_at hl 3 rfl) ?_
  refine lv_ixor hx hb dX8_step_121 ?_
  refine lv_iand hx hb dX8_step_122 ?_
  refine lv_ixor hx hb dX8_step_123 ?_
  refine lv_topi (fun v11 ev11 => ?_)
  refine lv_iadd hx hb dX8_step_124 ?_
  refine lv_aload_n hx hb dX8_step_125 rfl (lv_at hl 7 rfl) ?_
  refine xgt TX8_33 (v := .ref (ad 33)) hx hb hts hiX8 hown hev.1 (xro hR0 hap hS) 0 rfl (by decide) hf171 rfl dX8_step_126 ?_
  refine lv_iload_n hx hb dX8_step_129 rfl (lv_at hl 8 rfl) ?_
  refine xiald (k := (t)) hx hb hev.1 (xro hR0 hap hS) 1 1 rfl rfl (by omega) (by decide) dX8_step_130 ?_
  refine lv_iadd hx hb dX8_step_131 ?_
  refine lv_aload_n hx hb dX8_step_132 rfl (lv_at hl 7 rfl) ?_
  refine xgt TX8_34 (v := .ref (ad 34)) hx hb hts hiX8 hown hev.1 (xro hR0 hap hS) 0 rfl (by decide) hf174 rfl dX8_step_133 ?_
  refine lv_iload_n hx hb dX8_step_136 rfl (lv_at hl 8 rfl) ?_
  refine lv_bipush (v := 15) hx hb dX8_step_137 (by decide) ?_
  refine lv_iand hx hb dX8_step_139 ?_
  refine xtop (y := nI (t % 16)) (pk_andN (n := t) (by omega) 4 (by decide)) ?_
  refine xiald (k := (t % 16)) hx hb hev.1 hP 0 1 rfl rfl (by omega) (by decide) dX8_step_140 ?_
  refine lv_iadd hx hb dX8_step_141 ?_
  refine lv_topi (fun v12 ev12 => ?_)
  refine lv_istore (lv' := [(9, .int v12), (8, .int (a35 (((64 - t) + 2) % 8))), (7, .int (a35 (((64 - t) + 1) % 8))), (6, .int (a35 ((64 - t) % 8))), (5, .int (a35 (((64 - t) + 6) % 8))), (4, .int (a35 (((64 - t) + 5) % 8))), (3, .int (a35 (((64 - t) + 4) % 8))), (2, .int (nI (64 - t))), (0, .ref mo), (1, .int (nI t))]) hx hb dX8_step_142 hl (by decide) rfl (fun ls hl => ?_)
  refine lv_iload hx hb dX8_step_144 (lv_at hl 3 rfl) ?_
  refine lv_iconst (v := 2) hx hb dX8_step_146 (by decide) ?_
  have hP := hP.sub (ws' := [] ++ [(ad 34, aI E 16 a34), (ad 35, aI E 8 a35)]) [0, 1] rfl
  have hD := hD.sub (ws' := [] ++ [(ad 34, aI E 16 a34), (ad 35, aI E 8 a35)]) [0, 1] (by decide) rfl
  refine xci (va_runS (As := [.int (a35 ((64 - t) % 8)), .int 2]) (rest := []) ⟨hx, hb, hml, hown, hts⟩ (kX8_turned l E (a35 ((64 - t) % 8)) 2  H.size) (va_cwS 2 hts gX8_step_X8_turned rfl rfl rfl (by decide +kernel) ⟨Nat.le_of_ble_eq_true rfl, Nat.le_of_ble_eq_true rfl⟩) ⟨CP.blind, (xpre hev hz hA hP hD hS hR0 hap [] rfl)⟩ rfl rfl hl.1 rfl (lv_room (Nat.le_of_ble_eq_true rfl)) dX8_step_147 ⟨Nat.le_of_ble_eq_true rfl, Nat.le_of_ble_eq_true rfl⟩) hP hD hS hA (fun r13 w14 H locs h15 hP hD hS => ?_)
  obtain ⟨rfl, rfl, h15⟩ := h15
  try dsimp only at h15
  have hP : va_P E.1 vwCl [(ad 34, aI E 16 a34), (ad 35, aI E 8 a35)] H := hP
  have hD : va_D A [(ad 34, aI E 16 a34), (ad 35, aI E 8 a35)] := hD
  refine lv_iload hx hb dX8_step_150 (lv_at hl 3 rfl) ?_
  refine lv_bipush (v := 13) hx hb dX8_step_152 (by decide) ?_
  have hP := hP.sub (ws' := [] ++ [(ad 34, aI E 16 a34), (ad 35, aI E 8 a35)]) [0, 1] rfl
  have hD := hD.sub (ws' := [] ++ [(ad 34, aI E 16 a34), (ad 35, aI E 8 a35)]) [0, 1] (by decide) rfl
  refine xci (va_runS (As := [.int (a35 ((64 - t) % 8)), .int 13]) (rest := [.int (turn (a35 ((64 - t) % 8)) 2)]) ⟨hx, hb, hml, hown, hts⟩ (kX8_turned l E (a35 ((64 - t) % 8)) 13  H.size) (va_cwS 2 hts gX8_step_X8_turned rfl rfl rfl (by decide +kernel) ⟨Nat.le_of_ble_eq_true rfl, Nat.le_of_ble_eq_true rfl⟩) ⟨CP.blind, (xpre hev hz hA hP hD hS hR0 hap [] rfl)⟩ rfl rfl hl.1 rfl (lv_room (Nat.le_of_ble_eq_true rfl)) dX8_step_154 ⟨Nat.le_of_ble_eq_true rfl, Nat.le_of_ble_eq_true rfl⟩) hP hD hS hA (fun r16 w17 H locs h18 hP hD hS => ?_)
  obtain ⟨rfl, rfl, h18⟩ := h18
  try dsimp only at h18
  have hP : va_P E.1 vwCl [(ad 34, aI E 16 a34), (ad 35, aI E 8 a35)] H := hP
  have hD : va_D A [(ad 34, aI E 16 a34), (ad 35, aI E 8 a35)] := hD
  refine lv_ixor hx hb dX8_step_157 ?_
  refine lv_iload hx hb dX8_step_158 (lv_at hl 3 rfl) ?_
  refine lv_bipush (v := 22) hx hb dX8_step_160 (by decide) ?_
  have hP := hP.sub (ws' := [] ++ [(ad 34, aI E 16 a34), (ad 35, aI E 8 a35)]) [0, 1] rfl
  have hD := hD.sub (ws' := [] ++ [(ad 34, aI E 16 a34), (ad 35, aI E 8 a35)]) [0, 1] (by decide) rfl
  refine xci (va_runS (As := [.int (a35 ((64 - t) % 8)), .int 22]) (rest := [.int ((turn (a35 ((64 - t) % 8)) 2) ^^^ (turn (a35 ((64 - t) % 8)) 13))]) ⟨hx, hb, hml, hown, hts⟩ (kX8_turned l E (a35 ((64 - t) % 8)) 22  H.size) (va_cwS 2 hts gX8_step_X8_turned rfl rfl rfl (by decide +kernel) ⟨Nat.le_of_ble_eq_true rfl, Nat.le_of_ble_eq_true rfl⟩) ⟨CP.blind, (xpre hev hz hA hP hD hS hR0 hap [] rfl)⟩ rfl rfl hl.1 rfl (lv_room (Nat.le_of_ble_eq_true rfl)) dX8_step_162 ⟨Nat.le_of_ble_eq_true rfl, Nat.le_of_ble_eq_true rfl⟩) hP hD hS hA (fun r19 w20 H locs h21 hP hD hS => ?_)
  obtain ⟨rfl, rfl, h21⟩ := h21
  try dsimp only at h21
  have hP : va_P E.1 vwCl [(ad 34, aI E 16 a34), (ad 35, aI E 8 a35)] H := hP
  have hD : va_D A [(ad 34, aI E 16 a34), (ad 35, aI E 8 a35)] := hD
  refine lv_ixor hx hb dX8_step_165 ?_
  refine lv_topi (fun v22 ev22 => ?_)
  refine lv_iload hx hb dX8_step_166 (lv_at hl 3 rfl) ?_
  refine lv_iload hx hb dX8_step_168 (lv_at hl 2 rfl) ?_
  refine lv_iload hx hb dX8_step_170 (lv_at hl 1 rfl) ?_
  refine lv_ior hx hb dX8_step_172 ?_
  refine lv_iand hx hb dX8_step_173 ?_
  refine lv_iload hx hb dX8_step_174 (lv_at hl 2 rfl) ?_
  refine lv_iload hx hb dX8_step_176 (lv_at hl 1 rfl) ?_
  refine lv_iand hx hb dX8_step_178 ?_
  refine lv_ior hx hb dX8_step_179 ?_
  refine lv_topi (fun v23 ev23 => ?_)
  refine lv_iadd hx hb dX8_step_180 ?_
  refine lv_istore (lv' := [(10, .int (v22 + v23)), (9, .int v12), (8, .int (a35 (((64 - t) + 2) % 8))), (7, .int (a35 (((64 - t) + 1) % 8))), (6, .int (a35 ((64 - t) % 8))), (5, .int (a35 (((64 - t) + 6) % 8))), (4, .int (a35 (((64 - t) + 5) % 8))), (3, .int (a35 (((64 - t) + 4) % 8))), (2, .int (nI (64 - t))), (0, .ref mo), (1, .int (nI t))]) hx hb dX8_step_181 hl (by decide) rfl (fun ls hl => ?_)
  refine lv_aload_n hx hb dX8_step_183 rfl (lv_at hl 9 rfl) ?_
  refine xgt TX8_35 (v := .ref (ad 35)) hx hb hts hiX8 hown hev.1 (xro hR0 hap hS) 0 rfl (by decide) hf177 rfl dX8_step_184 ?_
  refine lv_iload_n hx hb dX8_step_187 rfl (lv_at hl 8 rfl) ?_
  refine lv_iconst (v := 3) hx hb dX8_step_188 (by decide) ?_
  refine lv_iadd hx hb dX8_step_189 ?_
  refine xtop (y := nI ((64 - t) + 3)) ((nI_add (64 - t) 3).trans (congrArg nI (by omega))) ?_
  refine lv_bipush (v := 7) hx hb dX8_step_190 (by decide) ?_
  refine lv_iand hx hb dX8_step_192 ?_
  refine xtop (y := nI (((64 - t) + 3) % 8)) (pk_andN (n := ((64 - t) + 3)) (by omega) 3 (by decide)) ?_
  refine lv_dup2_11 hx hb dX8_step_193 rfl rfl ?_
  refine xiald (k := (((64 - t) + 3) % 8)) hx hb hev.1 hP 1 1 rfl rfl (by omega) (by decide) dX8_step_194 ?_
  refine lv_iload hx hb dX8_step_195 (lv_at hl 1 rfl) ?_
  refine lv_iadd hx hb dX8_step_197 ?_
  refine xiast (k := ((64 - t) + 3) % 8) hx hb hev.1 hP hD hS 1 1 rfl rfl (by omega) (by decide) dX8_step_198 (fun H locs hP hD hS => ?_)
  obtain ⟨f24, ef24⟩ : ∃ y9_ : Nat → Int32, y9_ = upd a35 (((64 - t) + 3) % 8) ((a35 (((64 - t) + 3) % 8)) + v12) := ⟨_, rfl⟩
  rw [← ef24] at hP hD
  have hP : va_P E.1 vwCl [(ad 34, aI E 16 a34), (ad 35, aI E 8 f24)] H := hP
  have hD : va_D A [(ad 34, aI E 16 a34), (ad 35, aI E 8 f24)] := hD
  refine lv_aload_n hx hb dX8_step_199 rfl (lv_at hl 9 rfl) ?_
  refine xgt TX8_35 (v := .ref (ad 35)) hx hb hts hiX8 hown hev.1 (xro hR0 hap hS) 0 rfl (by decide) hf177 rfl dX8_step_200 ?_
  refine lv_iload_n hx hb dX8_step_203 rfl (lv_at hl 8 rfl) ?_
  refine lv_bipush (v := 7) hx hb dX8_step_204 (by decide) ?_
  refine lv_iadd hx hb dX8_step_206 ?_
  refine xtop (y := nI ((64 - t) + 7)) ((nI_add (64 - t) 7).trans (congrArg nI (by omega))) ?_
  refine lv_bipush (v := 7) hx hb dX8_step_207 (by decide) ?_
  refine lv_iand hx hb dX8_step_209 ?_
  refine xtop (y := nI (((64 - t) + 7) % 8)) (pk_andN (n := ((64 - t) + 7)) (by omega) 3 (by decide)) ?_
  refine lv_iload hx hb dX8_step_210 (lv_at hl 1 rfl) ?_
  refine lv_iload hx hb dX8_step_212 (lv_at hl 0 rfl) ?_
  refine lv_iadd hx hb dX8_step_214 ?_
  refine xiast (k := ((64 - t) + 7) % 8) hx hb hev.1 hP hD hS 1 1 rfl rfl (by omega) (by decide) dX8_step_215 (fun H locs hP hD hS => ?_)
  obtain ⟨f25, ef25⟩ : ∃ y9_ : Nat → Int32, y9_ = upd f24 (((64 - t) + 7) % 8) (v12 + (v22 + v23)) := ⟨_, rfl⟩
  rw [← ef25] at hP hD
  have hP : va_P E.1 vwCl [(ad 34, aI E 16 a34), (ad 35, aI E 8 f25)] H := hP
  have hD : va_D A [(ad 34, aI E 16 a34), (ad 35, aI E 8 f25)] := hD
  refine lv_aload_n hx hb dX8_step_216 rfl (lv_at hl 9 rfl) ?_
  refine xgt TX8_34 (v := .ref (ad 34)) hx hb hts hiX8 hown hev.1 (xro hR0 hap hS) 0 rfl (by decide) hf174 rfl dX8_step_217 ?_
  refine lv_iload_n hx hb dX8_step_220 rfl (lv_at hl 10 rfl) ?_
  refine lv_bipush (v := 15) hx hb dX8_step_221 (by decide) ?_
  refine lv_iand hx hb dX8_step_223 ?_
  refine xtop (y := nI (t % 16)) (pk_andN (n := t) (by omega) 4 (by decide)) ?_
  refine lv_aload_n hx hb dX8_step_224 rfl (lv_at hl 9 rfl) ?_
  refine lv_iload_n hx hb dX8_step_225 rfl (lv_at hl 10 rfl) ?_
  have hP := hP.sub (ws' := [] ++ [(ad 34, aI E 16 a34), (ad 35, aI E 8 f25)]) [0, 1] rfl
  have hD := hD.sub (ws' := [] ++ [(ad 34, aI E 16 a34), (ad 35, aI E 8 f25)]) [0, 1] (by decide) rfl
  refine xci (va_runV (As := [.int (nI t)]) (rest := [.int (nI (t % 16)), .ref (ad 34)]) ⟨hx, hb, hml, hown, hts⟩ (kX8_later l E mo ad th kn rn mn dp a34 t (by first | assumption | omega) H.size) (cwV 1 hts gX8_step_X8_later rfl rfl rfl (by decide +kernel) ⟨Nat.le_of_ble_eq_true rfl, Nat.le_of_ble_eq_true rfl⟩) ⟨CP.blind, (va_recv hev.1 (xro hR0 hap hS) (ci := 9) (q0 := 0) rfl rfl), (xpre hev hz hA hP hD hS hR0 hap [2, 0] rfl)⟩ rfl rfl hl.1 rfl (lv_room (Nat.le_of_ble_eq_true rfl)) dX8_step_226 ⟨Nat.le_of_ble_eq_true rfl, Nat.le_of_ble_eq_true rfl⟩) hP hD hS hA (fun r26 w27 H locs h28 hP hD hS => ?_)
  obtain ⟨rfl, rfl, h28⟩ := h28
  try dsimp only at h28
  have hP : va_P E.1 vwCl [(ad 34, aI E 16 a34), (ad 35, aI E 8 f25)] H := hP
  have hD : va_D A [(ad 34, aI E 16 a34), (ad 35, aI E 8 f25)] := hD
  refine xiast (k := t % 16) hx hb hev.1 hP hD hS 0 1 rfl rfl (by omega) (by decide) dX8_step_229 (fun H locs hP hD hS => ?_)
  obtain ⟨f29, ef29⟩ : ∃ y9_ : Nat → Int32, y9_ = upd a34 (t % 16) (ltr a34 t) := ⟨_, rfl⟩
  rw [← ef29] at hP hD
  have hP : va_P E.1 vwCl [(ad 34, aI E 16 f29), (ad 35, aI E 8 f25)] H := hP
  have hD : va_D A [(ad 34, aI E 16 f29), (ad 35, aI E 8 f25)] := hD
  refine xrv hx hb hr hlocks hP hD hS ⟨f29, f25, rfl, ?_⟩ dX8_step_230
  subst_vars
  exact ⟨rfl, rfl⟩

