abbrev pX0_firstBrokenRule (E : xE) (c0 : Nat) (cr : Nat) (rev : Int32) (sea : Int32) (ci : Nat → Option Nat) (N : Nat) (ra : Nat → Nat) (pr : Nat → RowP) (i : Nat) (t : Int64) (un : Int32) (r : Int32) (w : va_W) : Prop := w = [] ∧ r = nI (fbr ci pr rev un t i) ∧ (True)
set_option maxHeartbeats 8000000 in
set_option maxRecDepth 100000 in
theorem kX0_firstBrokenRule (l : Launch) (E : xE) (c0 : Nat) (cr : Nat) (rev : Int32) (sea : Int32) (ci : Nat → Option Nat) (N : Nat) (ra : Nat → Nat) (pr : Nat → RowP) (i : Nat) (t : Int64) (un : Int32) (hok : ∀ i, i < N → rOk (pr i)) (hci : ∀ j i, ci j = some i → i < N) (hi : i < N) : KT l yX0_firstBrokenRule wsX0_firstBrokenRule 4 88 0 0 E [] ([(c0, .inr (1, [.ref cr, .int rev, .int sea])), (cr, aR E 10 (fun j => (ci j).map ra))] ++ rowsW E N ra pr) [.ref c0, .ref (ra i), .long t, .int un] (QI E (pX0_firstBrokenRule E c0 cr rev sea ci N ra pr i t un)) := by
  refine KT.start (cc := cX0_firstBrokenRule) (maxL := 7) (ret := (some .int)) (by decide) rfl (Nat.le_of_ble_eq_true rfl) ?_
  intro p e s m below meth c A H hx hb hr hlocks hml hts hown hin hP hR0 hD hap hev hz hA hS ls hl
  have hl : lv_has ls 7 [(0, .ref c0), (1, .ref (ra i)), (2, .long t), (4, .int un)] := hl
  have hiX0 : ∀ w ∈ wsX00, w ∈ wsX0_firstBrokenRule := by decide +kernel
  have hiX4 : ∀ w ∈ wsX40, w ∈ wsX0_firstBrokenRule := by decide +kernel
  have hf17 := hts (.fieldLink RX0 17 "SignQuorum$Client" "revokedKeys" "I") (by decide +kernel)
  have hap := xmoreA (L := [(ra i, .inr (5, [.int ((pr i).2.1 0), .int (nI ((pr i).1 17)), .int ((pr i).2.1 1), .long ((pr i).2.2.1), .ref ((pr i).1 0), .int (nI ((pr i).1 12)), .ref ((pr i).1 1), .ref ((pr i).1 2), .ref ((pr i).1 3), .ref ((pr i).1 4), .int (nI ((pr i).1 13)), .int (nI ((pr i).1 14)), .int ((pr i).2.1 2)])), ((pr i).1 0, aB E 16 ((pr i).2.2.2 0)), ((pr i).1 1, .inr (4, [.ref ((pr i).1 5), .ref ((pr i).1 6)])), ((pr i).1 5, aI E 10 ((pr i).2.2.2 1)), ((pr i).1 6, aI E 10 ((pr i).2.2.2 2)), ((pr i).1 2, .inr (7, [.ref ((pr i).1 7), .ref ((pr i).1 8), .int (nI ((pr i).1 15))])), ((pr i).1 7, aI E 7 ((pr i).2.2.2 3)), ((pr i).1 8, aI E 7 ((pr i).2.2.2 4)), ((pr i).1 3, .inr (2, [.ref ((pr i).1 9), .ref ((pr i).1 10), .ref ((pr i).1 11), .int (nI ((pr i).1 16))])), ((pr i).1 9, aI E 6 ((pr i).2.2.2 5)), ((pr i).1 10, aI E 6 ((pr i).2.2.2 6)), ((pr i).1 11, aZ E 6 ((pr i).2.2.2 7)), ((pr i).1 4, aI E 6 ((pr i).2.2.2 8))]) hap (fun q9 h9 => List.mem_append_right _ (rowsW_mem (E := E) (ra := ra) (pr := pr) (hi) q9 h9))
  have hR0 := xmore (L := [(ra i, .inr (5, [.int ((pr i).2.1 0), .int (nI ((pr i).1 17)), .int ((pr i).2.1 1), .long ((pr i).2.2.1), .ref ((pr i).1 0), .int (nI ((pr i).1 12)), .ref ((pr i).1 1), .ref ((pr i).1 2), .ref ((pr i).1 3), .ref ((pr i).1 4), .int (nI ((pr i).1 13)), .int (nI ((pr i).1 14)), .int ((pr i).2.1 2)])), ((pr i).1 0, aB E 16 ((pr i).2.2.2 0)), ((pr i).1 1, .inr (4, [.ref ((pr i).1 5), .ref ((pr i).1 6)])), ((pr i).1 5, aI E 10 ((pr i).2.2.2 1)), ((pr i).1 6, aI E 10 ((pr i).2.2.2 2)), ((pr i).1 2, .inr (7, [.ref ((pr i).1 7), .ref ((pr i).1 8), .int (nI ((pr i).1 15))])), ((pr i).1 7, aI E 7 ((pr i).2.2.2 3)), ((pr i).1 8, aI E 7 ((pr i).2.2.2 4)), ((pr i).1 3, .inr (2, [.ref ((pr i).1 9), .ref ((pr i).1 10), .ref ((pr i).1 11), .int (nI ((pr i).1 16))])), ((pr i).1 9, aI E 6 ((pr i).2.2.2 5)), ((pr i).1 10, aI E 6 ((pr i).2.2.2 6)), ((pr i).1 11, aZ E 6 ((pr i).2.2.2 7)), ((pr i).1 4, aI E 6 ((pr i).2.2.2 8))]) hR0 (fun q9 h9 => List.mem_append_right _ (rowsW_mem (E := E) (ra := ra) (pr := pr) (hi) q9 h9))
  have hap : ∀ q ∈ ([(ra i, .inr (5, [.int ((pr i).2.1 0), .int (nI ((pr i).1 17)), .int ((pr i).2.1 1), .long ((pr i).2.2.1), .ref ((pr i).1 0), .int (nI ((pr i).1 12)), .ref ((pr i).1 1), .ref ((pr i).1 2), .ref ((pr i).1 3), .ref ((pr i).1 4), .int (nI ((pr i).1 13)), .int (nI ((pr i).1 14)), .int ((pr i).2.1 2)])), ((pr i).1 0, aB E 16 ((pr i).2.2.2 0)), ((pr i).1 1, .inr (4, [.ref ((pr i).1 5), .ref ((pr i).1 6)])), ((pr i).1 5, aI E 10 ((pr i).2.2.2 1)), ((pr i).1 6, aI E 10 ((pr i).2.2.2 2)), ((pr i).1 2, .inr (7, [.ref ((pr i).1 7), .ref ((pr i).1 8), .int (nI ((pr i).1 15))])), ((pr i).1 7, aI E 7 ((pr i).2.2.2 3)), ((pr i).1 8, aI E 7 ((pr i).2.2.2 4)), ((pr i).1 3, .inr (2, [.ref ((pr i).1 9), .ref ((pr i).1 10), .ref ((pr i).1 11), .int (nI ((pr i).1 16))])), ((pr i).1 9, aI E 6 ((pr i).2.2.2 5)), ((pr i).1 10, aI E 6 ((pr i).2.2.2 6)), ((pr i).1 11, aZ E 6 ((pr i).2.2.2 7)), ((pr i).1 4, aI E 6 ((pr i).2.2.2 8)), (c0, .inr (1, [.ref cr, .int rev, .int sea])), (cr, aR E 10 (fun j => (ci j).map ra))] ++ rowsW E N ra pr), ¬ A q.1 := hap
  have hR0 : va_P E.1 vwCl ([(ra i, .inr (5, [.int ((pr i).2.1 0), .int (nI ((pr i).1 17)), .int ((pr i).2.1 1), .long ((pr i).2.2.1), .ref ((pr i).1 0), .int (nI ((pr i).1 12)), .ref ((pr i).1 1), .ref ((pr i).1 2), .ref ((pr i).1 3), .ref ((pr i).1 4), .int (nI ((pr i).1 13)), .int (nI ((pr i).1 14)), .int ((pr i).2.1 2)])), ((pr i).1 0, aB E 16 ((pr i).2.2.2 0)), ((pr i).1 1, .inr (4, [.ref ((pr i).1 5), .ref ((pr i).1 6)])), ((pr i).1 5, aI E 10 ((pr i).2.2.2 1)), ((pr i).1 6, aI E 10 ((pr i).2.2.2 2)), ((pr i).1 2, .inr (7, [.ref ((pr i).1 7), .ref ((pr i).1 8), .int (nI ((pr i).1 15))])), ((pr i).1 7, aI E 7 ((pr i).2.2.2 3)), ((pr i).1 8, aI E 7 ((pr i).2.2.2 4)), ((pr i).1 3, .inr (2, [.ref ((pr i).1 9), .ref ((pr i).1 10), .ref ((pr i).1 11), .int (nI ((pr i).1 16))])), ((pr i).1 9, aI E 6 ((pr i).2.2.2 5)), ((pr i).1 10, aI E 6 ((pr i).2.2.2 6)), ((pr i).1 11, aZ E 6 ((pr i).2.2.2 7)), ((pr i).1 4, aI E 6 ((pr i).2.2.2 8)), (c0, .inr (1, [.ref cr, .int rev, .int sea])), (cr, aR E 10 (fun j => (ci j).map ra))] ++ rowsW E N ra pr) s.heap := hR0
  obtain ⟨o12i, o13i, o14i, o15i, o16i, o17i⟩ := hok i (hi)
  refine lv_aload_n hx hb dX0_firstBrokenRule_0 rfl (lv_at hl 1 rfl) ?_
  refine lv_ifnonnull (tgt := 6) hx hb dX0_firstBrokenRule_1 (by decide) ?_
  refine lv_aload_n hx hb dX0_firstBrokenRule_6 rfl (lv_at hl 0 rfl) ?_
  refine lv_iconst (v := 0) hx hb dX0_firstBrokenRule_7 (by decide) ?_
  have hP := hP.sub (ws' := [] ++ []) [] rfl
  have hD := hD.sub (ws' := [] ++ []) [] (by decide) rfl
  refine xcr (va_runV (As := [.int 0]) (rest := []) ⟨hx, hb, hml, hown, hts⟩ (kX0_currentOfJ l E c0 cr rev sea ci ra 0 (by first | assumption | omega) H.size) (cwV 1 hts gX0_firstBrokenRule_X0_currentOf rfl rfl rfl (by decide +kernel) ⟨Nat.le_of_ble_eq_true rfl, Nat.le_of_ble_eq_true rfl⟩) ⟨CP.blind, (va_recv hev.1 (xro hR0 hap hS) (ci := 1) (q0 := 13) rfl rfl), (xpre hev hz hA hP hD hS hR0 hap [13, 14] rfl)⟩ rfl rfl hl.1 rfl (lv_room (Nat.le_of_ble_eq_true rfl)) dX0_firstBrokenRule_8 ⟨Nat.le_of_ble_eq_true rfl, Nat.le_of_ble_eq_true rfl⟩) hP hD hS hA (fun r1 w2 H locs h3 hP hD hS => ?_)
  obtain ⟨rfl, rfl, h3⟩ := h3
  try dsimp only at h3
  have hP : va_P E.1 vwCl [] H := hP
  have hD : va_D A [] := hD
  cases o4 : ci 0 with
  | none =>
    refine lv_astoreN (lv' := [(5, .null), (0, .ref c0), (1, .ref (ra i)), (2, .long t), (4, .int un)]) hx hb dX0_firstBrokenRule_11 hl (by decide) rfl (fun ls hl => ?_)
    refine lv_iload hx hb dX0_firstBrokenRule_13 (lv_at hl 4 rfl) ?_
    refine lv_aload_n hx hb dX0_firstBrokenRule_15 rfl (lv_at hl 1 rfl) ?_
    refine va_get (D := E.1) (ci := 1) (v := .int rev) (C := RX0) (T := TX0) (N := 3) hx hb hts hiX0 hown hev.1 (xro hR0 hap hS) 13 rfl rfl 1 (by decide) hf17 (fun _ h9 => h9) rfl dX0_firstBrokenRule_16 ?_
    refine lv_iconst (v := (-1)) hx hb dX0_firstBrokenRule_19 (by decide) ?_
    refine lv_ixor hx hb dX0_firstBrokenRule_20 ?_
    refine lv_iand hx hb dX0_firstBrokenRule_21 ?_
    refine lv_istore (lv' := [(6, .int (un &&& (rev ^^^ (-1)))), (5, .null), (0, .ref c0), (1, .ref (ra i)), (2, .long t), (4, .int un)]) hx hb dX0_firstBrokenRule_22 hl (by decide) rfl (fun ls hl => ?_)
    refine lv_aload_n hx hb dX0_firstBrokenRule_24 rfl (lv_at hl 3 rfl) ?_
    refine va_getN (D := E.1) (ci := 5) (v := .int (nI ((pr i).1 17))) (C := RX4) (T := TX4) (N := 13) hx hb hts hiX4 hown hev.1 (xro hR0 hap hS) 0 rfl rfl 1 (by decide) (xNF7 hev.2.1) (fun _ h9 => h9) rfl dX0_firstBrokenRule_25 ?_
    refine lv_if_eq (tgt := 47) hx hb dX0_firstBrokenRule_28 (by decide) (fun c5 => ?_) (fun c5 => ?_)
    · skip
      have kc5 : ((pr i).1 17) = 0 := (nI_eq (a := ((pr i).1 17)) (b := 0) (by omega) (by omega)).mp c5
      have r2 : ¬ (¬ (pr i).1 17 = 0 ∧ ¬ alvP ci pr t) := fun q => q.1 kc5
      refine lv_aloadN hx hb dX0_firstBrokenRule_47 (lv_at hl 1 rfl) ?_
      refine lv_ifnullN (tgt := 65) hx hb dX0_firstBrokenRule_49 (by decide) ?_
      have r3 : ¬ ¬ qumP ci pr rev un i := fun q => q (fun k9 h9 => by rw [o4] at h9; cases h9)
      refine lv_aload_n hx hb dX0_firstBrokenRule_65 rfl (lv_at hl 3 rfl) ?_
      refine va_getN (D := E.1) (ci := 5) (v := .int (nI ((pr i).1 17))) (C := RX4) (T := TX4) (N := 13) hx hb hts hiX4 hown hev.1 (xro hR0 hap hS) 0 rfl rfl 1 (by decide) (xNF7 hev.2.1) (fun _ h9 => h9) rfl dX0_firstBrokenRule_66 ?_
      refine lv_if_ne (tgt := 84) hx hb dX0_firstBrokenRule_69 (by decide) (fun c6 => absurd c6 (fun h9 => h9 ((nI_eq (a := ((pr i).1 17)) (b := 0) (by omega) (by omega)).mpr (kc5)))) (fun c6 => ?_)
      refine lv_aload_n hx hb dX0_firstBrokenRule_72 rfl (lv_at hl 3 rfl) ?_
      refine lv_aload_n hx hb dX0_firstBrokenRule_73 rfl (lv_at hl 3 rfl) ?_
      refine lv_iload hx hb dX0_firstBrokenRule_74 (lv_at hl 0 rfl) ?_
      have hP := hP.sub (ws' := [] ++ []) [] rfl
      have hD := hD.sub (ws' := [] ++ []) [] (by decide) rfl
      refine xci (va_runS (As := [.ref (ra i), .ref (ra i), .int (un &&& (rev ^^^ (-1)))]) (rest := []) ⟨hx, hb, hml, hown, hts⟩ (kX0_hasQuorum l E rev un N ra pr i i (by first | assumption | omega) (by first | assumption | omega) (by first | assumption | omega) H.size) (va_cwS 3 hts gX0_firstBrokenRule_X0_hasQuorum rfl rfl rfl (by decide +kernel) ⟨Nat.le_of_ble_eq_true rfl, Nat.le_of_ble_eq_true rfl⟩) ⟨CP.blind, (xpreT (X := rowsW E N ra pr) hev hz hA hP hD hS hR0 hap [] rfl (fun q9 h9 => List.mem_append_right _ h9))⟩ rfl rfl hl.1 rfl (lv_room (Nat.le_of_ble_eq_true rfl)) dX0_firstBrokenRule_76 ⟨Nat.le_of_ble_eq_true rfl, Nat.le_of_ble_eq_true rfl⟩) hP hD hS hA (fun r7 w8 H locs h9 hP hD hS => ?_)
      obtain ⟨rfl, rfl, h9⟩ := h9
      try dsimp only at h9
      have hP : va_P E.1 vwCl [] H := hP
      have hD : va_D A [] := hD
      refine lv_if_ne (tgt := 84) hx hb dX0_firstBrokenRule_79 (by decide) (fun c10 => ?_) (fun c10 => ?_)
      · skip
        have kc10 := b1_n.mp c10
        have r4 : ¬ ((pr i).1 17 = 0 ∧ ¬ qM rev un (pr i) (pr i)) := fun q => q.2 kc10
        refine lv_aload_n hx hb dX0_firstBrokenRule_84 rfl (lv_at hl 2 rfl) ?_
        refine lv_aload_n hx hb dX0_firstBrokenRule_85 rfl (lv_at hl 3 rfl) ?_
        have hP := hP.sub (ws' := [] ++ []) [] rfl
        have hD := hD.sub (ws' := [] ++ []) [] (by decide) rfl
        refine xci (va_runV (As := [.ref (ra i)]) (rest := []) ⟨hx, hb, hml, hown, hts⟩ (kX0_hasFollowingVersion l E c0 cr rev sea ci N ra pr i (by first | assumption | omega) (by first | assumption | omega) (by first | assumption | omega) H.size) (cwV 1 hts gX0_firstBrokenRule_X0_hasFollowingVersion rfl rfl rfl (by decide +kernel) ⟨Nat.le_of_ble_eq_true rfl, Nat.le_of_ble_eq_true rfl⟩) ⟨CP.blind, (va_recv hev.1 (xro hR0 hap hS) (ci := 1) (q0 := 13) rfl rfl), (xpreT (X := rowsW E N ra pr) hev hz hA hP hD hS hR0 hap [13, 14] rfl (fun q9 h9 => List.mem_append_right _ h9))⟩ rfl rfl hl.1 rfl (lv_room (Nat.le_of_ble_eq_true rfl)) dX0_firstBrokenRule_86 ⟨Nat.le_of_ble_eq_true rfl, Nat.le_of_ble_eq_true rfl⟩) hP hD hS hA (fun r11 w12 H locs h13 hP hD hS => ?_)
        obtain ⟨rfl, rfl, h13⟩ := h13
        try dsimp only at h13
        have hP : va_P E.1 vwCl [] H := hP
        have hD : va_D A [] := hD
        refine lv_if_ne (tgt := 94) hx hb dX0_firstBrokenRule_89 (by decide) (fun c14 => ?_) (fun c14 => ?_)
        · skip
          have kc14 := b1_n.mp c14
          have r5 : ¬ ¬ folP ci pr i := fun q => q kc14
          refine lv_aload_n hx hb dX0_firstBrokenRule_94 rfl (lv_at hl 3 rfl) ?_
          refine lv_lload_n hx hb dX0_firstBrokenRule_95 rfl (lv_at hl 4 rfl) ?_
          have hP := hP.sub (ws' := [] ++ []) [] rfl
          have hD := hD.sub (ws' := [] ++ []) [] (by decide) rfl
          refine xci (va_runV (As := [.long t]) (rest := []) ⟨hx, hb, hml, hown, hts⟩ (kX4_isAliveAt l E (ra i) ((pr i).2.1 0) (nI ((pr i).1 17)) ((pr i).2.1 1) ((pr i).2.2.1) ((pr i).1 0) ((pr i).1 12) ((pr i).1 1) ((pr i).1 2) ((pr i).1 3) ((pr i).1 4) ((pr i).1 13) (nI ((pr i).1 14)) ((pr i).2.1 2) t  H.size) (cwV 1 hts gX0_firstBrokenRule_X4_isAliveAt rfl rfl rfl (by decide +kernel) ⟨Nat.le_of_ble_eq_true rfl, Nat.le_of_ble_eq_true rfl⟩) ⟨CP.blind, (va_recv hev.1 (xro hR0 hap hS) (ci := 5) (q0 := 0) rfl rfl), (xpre hev hz hA hP hD hS hR0 hap [0] rfl)⟩ rfl rfl hl.1 rfl (lv_room (Nat.le_of_ble_eq_true rfl)) dX0_firstBrokenRule_96 ⟨Nat.le_of_ble_eq_true rfl, Nat.le_of_ble_eq_true rfl⟩) hP hD hS hA (fun r15 w16 H locs h17 hP hD hS => ?_)
          obtain ⟨rfl, rfl, h17⟩ := h17
          try dsimp only at h17
          have hP : va_P E.1 vwCl [] H := hP
          have hD : va_D A [] := hD
          refine lv_if_ne (tgt := 105) hx hb dX0_firstBrokenRule_99 (by decide) (fun c18 => ?_) (fun c18 => ?_)
          · skip
            have kc18 := b1_n.mp c18
            have r6 := kc18
            refine lv_aload_n hx hb dX0_firstBrokenRule_105 rfl (lv_at hl 2 rfl) ?_
            refine lv_aload_n hx hb dX0_firstBrokenRule_106 rfl (lv_at hl 3 rfl) ?_
            refine lv_lload_n hx hb dX0_firstBrokenRule_107 rfl (lv_at hl 4 rfl) ?_
            have hP := hP.sub (ws' := [] ++ []) [] rfl
            have hD := hD.sub (ws' := [] ++ []) [] (by decide) rfl
            refine xci (va_runV (As := [.ref (ra i), .long t]) (rest := []) ⟨hx, hb, hml, hown, hts⟩ (kX0_isToldAsNeeded l E c0 cr rev sea ci N ra pr i t (by first | assumption | omega) (by first | assumption | omega) (by first | assumption | omega) H.size) (cwV 2 hts gX0_firstBrokenRule_X0_isToldAsNeeded rfl rfl rfl (by decide +kernel) ⟨Nat.le_of_ble_eq_true rfl, Nat.le_of_ble_eq_true rfl⟩) ⟨CP.blind, (va_recv hev.1 (xro hR0 hap hS) (ci := 1) (q0 := 13) rfl rfl), (xpreT (X := rowsW E N ra pr) hev hz hA hP hD hS hR0 hap [13, 14] rfl (fun q9 h9 => List.mem_append_right _ h9))⟩ rfl rfl hl.1 rfl (lv_room (Nat.le_of_ble_eq_true rfl)) dX0_firstBrokenRule_108 ⟨Nat.le_of_ble_eq_true rfl, Nat.le_of_ble_eq_true rfl⟩) hP hD hS hA (fun r19 w20 H locs h21 hP hD hS => ?_)
            obtain ⟨rfl, rfl, h21⟩ := h21
            try dsimp only at h21
            have hP : va_P E.1 vwCl [] H := hP
            have hD : va_D A [] := hD
            refine lv_if_ne (tgt := 117) hx hb dX0_firstBrokenRule_111 (by decide) (fun c22 => ?_) (fun c22 => ?_)
            · skip
              have kc22 := b1_n.mp c22
              have r7 : ¬ ¬ tolP ci pr t i := fun q => q kc22
              refine lv_aload_n hx hb dX0_firstBrokenRule_117 rfl (lv_at hl 2 rfl) ?_
              refine lv_aload_n hx hb dX0_firstBrokenRule_118 rfl (lv_at hl 3 rfl) ?_
              have hP := hP.sub (ws' := [] ++ []) [] rfl
              have hD := hD.sub (ws' := [] ++ []) [] (by decide) rfl
              refine xci (va_runV (As := [.ref (ra i)]) (rest := []) ⟨hx, hb, hml, hown, hts⟩ (kX0_keepsWhatWasTold l E c0 cr rev sea ci N ra pr i (by first | assumption | omega) (by first | assumption | omega) (by first | assumption | omega) H.size) (cwV 1 hts gX0_firstBrokenRule_X0_keepsWhatWasTold rfl rfl rfl (by decide +kernel) ⟨Nat.le_of_ble_eq_true rfl, Nat.le_of_ble_eq_true rfl⟩) ⟨CP.blind, (va_recv hev.1 (xro hR0 hap hS) (ci := 1) (q0 := 13) rfl rfl), (xpreT (X := rowsW E N ra pr) hev hz hA hP hD hS hR0 hap [13, 14] rfl (fun q9 h9 => List.mem_append_right _ h9))⟩ rfl rfl hl.1 rfl (lv_room (Nat.le_of_ble_eq_true rfl)) dX0_firstBrokenRule_119 ⟨Nat.le_of_ble_eq_true rfl, Nat.le_of_ble_eq_true rfl⟩) hP hD hS hA (fun r23 w24 H locs h25 hP hD hS => ?_)
              obtain ⟨rfl, rfl, h25⟩ := h25
              try dsimp only at h25
              have hP : va_P E.1 vwCl [] H := hP
              have hD : va_D A [] := hD
              refine lv_if_eq (tgt := 129) hx hb dX0_firstBrokenRule_122 (by decide) (fun c26 => ?_) (fun c26 => ?_)
              · skip
                have kc26 := b1_0.mp c26
                refine lv_bipush (v := 8) hx hb dX0_firstBrokenRule_129 (by decide) ?_
                refine xri hx hb hr hlocks hP hD hS ⟨rfl, ?_, ?_⟩ dX0_firstBrokenRule_131
                · rw [fbr, pick_f r2, pick_f r3, pick_f r4, pick_f r5, pick_f r6, pick_f r7, pick_t kc26]
                  rfl
                · trivial
              · skip
                have kc26 := b1_n.mp c26
                refine lv_iconst (v := 0) hx hb dX0_firstBrokenRule_125 (by decide) ?_
                refine lv_goto (tgt := 131) hx hb dX0_firstBrokenRule_126 (by decide) ?_
                refine xri hx hb hr hlocks hP hD hS ⟨rfl, ?_, ?_⟩ dX0_firstBrokenRule_131
                · rw [fbr, pick_f r2, pick_f r3, pick_f r4, pick_f r5, pick_f r6, pick_f r7, pick_f (fun q => q kc26)]
                  rfl
                · trivial
            · skip
              have kc22 := b1_0.mp c22
              refine lv_bipush (v := 7) hx hb dX0_firstBrokenRule_114 (by decide) ?_
              refine xri hx hb hr hlocks hP hD hS ⟨rfl, ?_, ?_⟩ dX0_firstBrokenRule_116
              · rw [fbr, pick_f r2, pick_f r3, pick_f r4, pick_f r5, pick_f r6, pick_t kc22]
                rfl
              · trivial
          · skip
            have kc18 := b1_0.mp c18
            refine lv_bipush (v := 6) hx hb dX0_firstBrokenRule_102 (by decide) ?_
            refine xri hx hb hr hlocks hP hD hS ⟨rfl, ?_, ?_⟩ dX0_firstBrokenRule_104
            · rw [fbr, pick_f r2, pick_f r3, pick_f r4, pick_f r5, pick_t (Classical.not_not.mp kc18)]
              rfl
            · trivial
        · skip
          have kc14 := b1_0.mp c14
          refine lv_iconst (v := 5) hx hb dX0_firstBrokenRule_92 (by decide) ?_
          refine xri hx hb hr hlocks hP hD hS ⟨rfl, ?_, ?_⟩ dX0_firstBrokenRule_93
          · rw [fbr, pick_f r2, pick_f r3, pick_f r4, pick_t kc14]
            rfl
          · trivial
      · skip
        have kc10 := b1_0.mp c10
        refine lv_iconst (v := 4) hx hb dX0_firstBrokenRule_82 (by decide) ?_
        refine xri hx hb hr hlocks hP hD hS ⟨rfl, ?_, ?_⟩ dX0_firstBrokenRule_83
        · rw [fbr, pick_f r2, pick_f r3, pick_t ⟨kc5, kc10⟩]
          rfl
        · trivial
    · skip
      have kc5 : ¬ ((pr i).1 17) = 0 := fun h9 => c5 ((nI_eq (a := ((pr i).1 17)) (b := 0) (by omega) (by omega)).mpr h9)
      refine lv_aloadN hx hb dX0_firstBrokenRule_31 (lv_at hl 1 rfl) ?_
      refine lv_ifnullN (tgt := 45) hx hb dX0_firstBrokenRule_33 (by decide) ?_
      refine lv_iconst (v := 2) hx hb dX0_firstBrokenRule_45 (by decide) ?_
      refine xri hx hb hr hlocks hP hD hS ⟨rfl, ?_, ?_⟩ dX0_firstBrokenRule_46
      · rw [fbr, pick_t ⟨kc5, fun ⟨k9, h9, g9⟩ => by rw [o4] at h9; cases h9⟩]
        rfl
      · trivial
  | some kk =>
    have hap := xmoreA (L := [(ra kk, .inr (5, [.int ((pr kk).2.1 0), .int (nI ((pr kk).1 17)), .int ((pr kk).2.1 1), .long ((pr kk).2.2.1), .ref ((pr kk).1 0), .int (nI ((pr kk).1 12)), .ref ((pr kk).1 1), .ref ((pr kk).1 2), .ref ((pr kk).1 3), .ref ((pr kk).1 4), .int (nI ((pr kk).1 13)), .int (nI ((pr kk).1 14)), .int ((pr kk).2.1 2)])), ((pr kk).1 0, aB E 16 ((pr kk).2.2.2 0)), ((pr kk).1 1, .inr (4, [.ref ((pr kk).1 5), .ref ((pr kk).1 6)])), ((pr kk).1 5, aI E 10 ((pr kk).2.2.2 1)), ((pr kk).1 6, aI E 10 ((pr kk).2.2.2 2)), ((pr kk).1 2, .inr (7, [.ref ((pr kk).1 7), .ref ((pr kk).1 8), .int (nI ((pr kk).1 15))])), ((pr kk).1 7, aI E 7 ((pr kk).2.2.2 3)), ((pr kk).1 8, aI E 7 ((pr kk).2.2.2 4)), ((pr kk).1 3, .inr (2, [.ref ((pr kk).1 9), .ref ((pr kk).1 10), .ref ((pr kk).1 11), .int (nI ((pr kk).1 16))])), ((pr kk).1 9, aI E 6 ((pr kk).2.2.2 5)), ((pr kk).1 10, aI E 6 ((pr kk).2.2.2 6)), ((pr kk).1 11, aZ E 6 ((pr kk).2.2.2 7)), ((pr kk).1 4, aI E 6 ((pr kk).2.2.2 8))]) hap (fun q9 h9 => List.mem_append_right _ (rowsW_mem (E := E) (ra := ra) (pr := pr) (hci _ _ o4) q9 h9))
    have hR0 := xmore (L := [(ra kk, .inr (5, [.int ((pr kk).2.1 0), .int (nI ((pr kk).1 17)), .int ((pr kk).2.1 1), .long ((pr kk).2.2.1), .ref ((pr kk).1 0), .int (nI ((pr kk).1 12)), .ref ((pr kk).1 1), .ref ((pr kk).1 2), .ref ((pr kk).1 3), .ref ((pr kk).1 4), .int (nI ((pr kk).1 13)), .int (nI ((pr kk).1 14)), .int ((pr kk).2.1 2)])), ((pr kk).1 0, aB E 16 ((pr kk).2.2.2 0)), ((pr kk).1 1, .inr (4, [.ref ((pr kk).1 5), .ref ((pr kk).1 6)])), ((pr kk).1 5, aI E 10 ((pr kk).2.2.2 1)), ((pr kk).1 6, aI E 10 ((pr kk).2.2.2 2)), ((pr kk).1 2, .inr (7, [.ref ((pr kk).1 7), .ref ((pr kk).1 8), .int (nI ((pr kk).1 15))])), ((pr kk).1 7, aI E 7 ((pr kk).2.2.2 3)), ((pr kk).1 8, aI E 7 ((pr kk).2.2.2 4)), ((pr kk).1 3, .inr (2, [.ref ((pr kk).1 9), .ref ((pr kk).1 10), .ref ((pr kk).1 11), .int (nI ((pr kk).1 16))])), ((pr kk).1 9, aI E 6 ((pr kk).2.2.2 5)), ((pr kk).1 10, aI E 6 ((pr kk).2.2.2 6)), ((pr kk).1 11, aZ E 6 ((pr kk).2.2.2 7)), ((pr kk).1 4, aI E 6 ((pr kk).2.2.2 8))]) hR0 (fun q9 h9 => List.mem_append_right _ (rowsW_mem (E := E) (ra := ra) (pr := pr) (hci _ _ o4) q9 h9))
    have hap : ∀ q ∈ ([(ra kk, .inr (5, [.int ((pr kk).2.1 0), .int (nI ((pr kk).1 17)), .int ((pr kk).2.1 1), .long ((pr kk).2.2.1), .ref ((pr kk).1 0), .int (nI ((pr kk).1 12)), .ref ((pr kk).1 1), .ref ((pr kk).1 2), .ref ((pr kk).1 3), .ref ((pr kk).1 4), .int (nI ((pr kk).1 13)), .int (nI ((pr kk).1 14)), .int ((pr kk).2.1 2)])), ((pr kk).1 0, aB E 16 ((pr kk).2.2.2 0)), ((pr kk).1 1, .inr (4, [.ref ((pr kk).1 5), .ref ((pr kk).1 6)])), ((pr kk).1 5, aI E 10 ((pr kk).2.2.2 1)), ((pr kk).1 6, aI E 10 ((pr kk).2.2.2 2)), ((pr kk).1 2, .inr (7, [.ref ((pr kk).1 7), .ref ((pr kk).1 8), .int (nI ((pr kk).1 15))])), ((pr kk).1 7, aI E 7 ((pr kk).2.2.2 3)), ((pr kk).1 8, aI E 7 ((pr kk).2.2.2 4)), ((pr kk).1 3, .inr (2, [.ref ((pr kk).1 9), .ref ((pr kk).1 10), .ref ((pr kk).1 11), .int (nI ((pr kk).1 16))])), ((pr kk).1 9, aI E 6 ((pr kk).2.2.2 5)), ((pr kk).1 10, aI E 6 ((pr kk).2.2.2 6)), ((pr kk).1 11, aZ E 6 ((pr kk).2.2.2 7)), ((pr kk).1 4, aI E 6 ((pr kk).2.2.2 8)), (ra i, .inr (5, [.int ((pr i).2.1 0), .int (nI ((pr i).1 17)), .int ((pr i).2.1 1), .long ((pr i).2.2.1), .ref ((pr i).1 0), .int (nI ((pr i).1 12)), .ref ((pr i).1 1), .ref ((pr i).1 2), .ref ((pr i).1 3), .ref ((pr i).1 4), .int (nI ((pr i).1 13)), .int (nI ((pr i).1 14)), .int ((pr i).2.1 2)])), ((pr i).1 0, aB E 16 ((pr i).2.2.2 0)), ((pr i).1 1, .inr (4, [.ref ((pr i).1 5), .ref ((pr i).1 6)])), ((pr i).1 5, aI E 10 ((pr i).2.2.2 1)), ((pr i).1 6, aI E 10 ((pr i).2.2.2 2)), ((pr i).1 2, .inr (7, [.ref ((pr i).1 7), .ref ((pr i).1 8), .int (nI ((pr i).1 15))])), ((pr i).1 7, aI E 7 ((pr i).2.2.2 3)), ((pr i).1 8, aI E 7 ((pr i).2.2.2 4)), ((pr i).1 3, .inr (2, [.ref ((pr i).1 9), .ref ((pr i).1 10), .ref ((pr i).1 11), .int (nI ((pr i).1 16))])), ((pr i).1 9, aI E 6 ((pr i).2.2.2 5)), ((pr i).1 10, aI E 6 ((pr i).2.2.2 6)), ((pr i).1 11, aZ E 6 ((pr i).2.2.2 7)), ((pr i).1 4, aI E 6 ((pr i).2.2.2 8)), (c0, .inr (1, [.ref cr, .int rev, .int sea])), (cr, aR E 10 (fun j => (ci j).map ra))] ++ rowsW E N ra pr), ¬ A q.1 := hap
    have hR0 : va_P E.1 vwCl ([(ra kk, .inr (5, [.int ((pr kk).2.1 0), .int (nI ((pr kk).1 17)), .int ((pr kk).2.1 1), .long ((pr kk).2.2.1), .ref ((pr kk).1 0), .int (nI ((pr kk).1 12)), .ref ((pr kk).1 1), .ref ((pr kk).1 2), .ref ((pr kk).1 3), .ref ((pr kk).1 4), .int (nI ((pr kk).1 13)), .int (nI ((pr kk).1 14)), .int ((pr kk).2.1 2)])), ((pr kk).1 0, aB E 16 ((pr kk).2.2.2 0)), ((pr kk).1 1, .inr (4, [.ref ((pr kk).1 5), .ref ((pr kk).1 6)])), ((pr kk).1 5, aI E 10 ((pr kk).2.2.2 1)), ((pr kk).1 6, aI E 10 ((pr kk).2.2.2 2)), ((pr kk).1 2, .inr (7, [.ref ((pr kk).1 7), .ref ((pr kk).1 8), .int (nI ((pr kk).1 15))])), ((pr kk).1 7, aI E 7 ((pr kk).2.2.2 3)), ((pr kk).1 8, aI E 7 ((pr kk).2.2.2 4)), ((pr kk).1 3, .inr (2, [.ref ((pr kk).1 9), .ref ((pr kk).1 10), .ref ((pr kk).1 11), .int (nI ((pr kk).1 16))])), ((pr kk).1 9, aI E 6 ((pr kk).2.2.2 5)), ((pr kk).1 10, aI E 6 ((pr kk).2.2.2 6)), ((pr kk).1 11, aZ E 6 ((pr kk).2.2.2 7)), ((pr kk).1 4, aI E 6 ((pr kk).2.2.2 8)), (ra i, .inr (5, [.int ((pr i).2.1 0), .int (nI ((pr i).1 17)), .int ((pr i).2.1 1), .long ((pr i).2.2.1), .ref ((pr i).1 0), .int (nI ((pr i).1 12)), .ref ((pr i).1 1), .ref ((pr i).1 2), .ref ((pr i).1 3), .ref ((pr i).1 4), .int (nI ((pr i).1 13)), .int (nI ((pr i).1 14)), .int ((pr i).2.1 2)])), ((pr i).1 0, aB E 16 ((pr i).2.2.2 0)), ((pr i).1 1, .inr (4, [.ref ((pr i).1 5), .ref ((pr i).1 6)])), ((pr i).1 5, aI E 10 ((pr i).2.2.2 1)), ((pr i).1 6, aI E 10 ((pr i).2.2.2 2)), ((pr i).1 2, .inr (7, [.ref ((pr i).1 7), .ref ((pr i).1 8), .int (nI ((pr i).1 15))])), ((pr i).1 7, aI E 7 ((pr i).2.2.2 3)), ((pr i).1 8, aI E 7 ((pr i).2.2.2 4)), ((pr i).1 3, .inr (2, [.ref ((pr i).1 9), .ref ((pr i).1 10), .ref ((pr i).1 11), .int (nI ((pr i).1 16))])), ((pr i).1 9, aI E 6 ((pr i).2.2.2 5)), ((pr i).1 10, aI E 6 ((pr i).2.2.2 6)), ((pr i).1 11, aZ E 6 ((pr i).2.2.2 7)), ((pr i).1 4, aI E 6 ((pr i).2.2.2 8)), (c0, .inr (1, [.ref cr, .int rev, .int sea])), (cr, aR E 10 (fun j => (ci j).map ra))] ++ rowsW E N ra pr) s.heap := hR0
    have hltkk : kk < N := hci _ _ o4
    obtain ⟨o12kk, o13kk, o14kk, o15kk, o16kk, o17kk⟩ := hok kk (hci _ _ o4)
    refine lv_astore (lv' := [(5, .ref (ra kk)), (0, .ref c0), (1, .ref (ra i)), (2, .long t), (4, .int un)]) hx hb dX0_firstBrokenRule_11 hl (by decide) rfl (fun ls hl => ?_)
    refine lv_iload hx hb dX0_firstBrokenRule_13 (lv_at hl 4 rfl) ?_
    refine lv_aload_n hx hb dX0_firstBrokenRule_15 rfl (lv_at hl 1 rfl) ?_
    refine va_get (D := E.1) (ci := 1) (v := .int rev) (C := RX0) (T := TX0) (N := 3) hx hb hts hiX0 hown hev.1 (xro hR0 hap hS) 26 rfl rfl 1 (by decide) hf17 (fun _ h9 => h9) rfl dX0_firstBrokenRule_16 ?_
    refine lv_iconst (v := (-1)) hx hb dX0_firstBrokenRule_19 (by decide) ?_
    refine lv_ixor hx hb dX0_firstBrokenRule_20 ?_
    refine lv_iand hx hb dX0_firstBrokenRule_21 ?_
    refine lv_istore (lv' := [(6, .int (un &&& (rev ^^^ (-1)))), (5, .ref (ra kk)), (0, .ref c0), (1, .ref (ra i)), (2, .long t), (4, .int un)]) hx hb dX0_firstBrokenRule_22 hl (by decide) rfl (fun ls hl => ?_)
    refine lv_aload_n hx hb dX0_firstBrokenRule_24 rfl (lv_at hl 3 rfl) ?_
    refine va_getN (D := E.1) (ci := 5) (v := .int (nI ((pr i).1 17))) (C := RX4) (T := TX4) (N := 13) hx hb hts hiX4 hown hev.1 (xro hR0 hap hS) 13 rfl rfl 1 (by decide) (xNF7 hev.2.1) (fun _ h9 => h9) rfl dX0_firstBrokenRule_25 ?_
    refine lv_if_eq (tgt := 47) hx hb dX0_firstBrokenRule_28 (by decide) (fun c27 => ?_) (fun c27 => ?_)
    · skip
      have kc27 : ((pr i).1 17) = 0 := (nI_eq (a := ((pr i).1 17)) (b := 0) (by omega) (by omega)).mp c27
      have r2 : ¬ (¬ (pr i).1 17 = 0 ∧ ¬ alvP ci pr t) := fun q => q.1 kc27
      refine lv_aload hx hb dX0_firstBrokenRule_47 (lv_at hl 1 rfl) ?_
      refine lv_ifnull hx hb dX0_firstBrokenRule_49 ?_
      refine lv_aload_n hx hb dX0_firstBrokenRule_52 rfl (lv_at hl 3 rfl) ?_
      refine lv_aload hx hb dX0_firstBrokenRule_53 (lv_at hl 1 rfl) ?_
      refine lv_iload hx hb dX0_firstBrokenRule_55 (lv_at hl 0 rfl) ?_
      have hP := hP.sub (ws' := [] ++ []) [] rfl
      have hD := hD.sub (ws' := [] ++ []) [] (by decide) rfl
      refine xci (va_runS (As := [.ref (ra i), .ref (ra kk), .int (un &&& (rev ^^^ (-1)))]) (rest := []) ⟨hx, hb, hml, hown, hts⟩ (kX0_hasQuorum l E rev un N ra pr i kk (by first | assumption | omega) (by first | assumption | omega) (by first | assumption | omega) H.size) (va_cwS 3 hts gX0_firstBrokenRule_X0_hasQuorum rfl rfl rfl (by decide +kernel) ⟨Nat.le_of_ble_eq_true rfl, Nat.le_of_ble_eq_true rfl⟩) ⟨CP.blind, (xpreT (X := rowsW E N ra pr) hev hz hA hP hD hS hR0 hap [] rfl (fun q9 h9 => List.mem_append_right _ h9))⟩ rfl rfl hl.1 rfl (lv_room (Nat.le_of_ble_eq_true rfl)) dX0_firstBrokenRule_57 ⟨Nat.le_of_ble_eq_true rfl, Nat.le_of_ble_eq_true rfl⟩) hP hD hS hA (fun r28 w29 H locs h30 hP hD hS => ?_)
      obtain ⟨rfl, rfl, h30⟩ := h30
      try dsimp only at h30
      have hP : va_P E.1 vwCl [] H := hP
      have hD : va_D A [] := hD
      refine lv_if_ne (tgt := 65) hx hb dX0_firstBrokenRule_60 (by decide) (fun c31 => ?_) (fun c31 => ?_)
      · skip
        have kc31 := b1_n.mp c31
        have r3 : ¬ ¬ qumP ci pr rev un i := fun q => q (fun k9 h9 => by rw [o4] at h9; cases h9; exact kc31)
        refine lv_aload_n hx hb dX0_firstBrokenRule_65 rfl (lv_at hl 3 rfl) ?_
        refine va_getN (D := E.1) (ci := 5) (v := .int (nI ((pr i).1 17))) (C := RX4) (T := TX4) (N := 13) hx hb hts hiX4 hown hev.1 (xro hR0 hap hS) 13 rfl rfl 1 (by decide) (xNF7 hev.2.1) (fun _ h9 => h9) rfl dX0_firstBrokenRule_66 ?_
        refine lv_if_ne (tgt := 84) hx hb dX0_firstBrokenRule_69 (by decide) (fun c32 => absurd c32 (fun h9 => h9 ((nI_eq (a := ((pr i).1 17)) (b := 0) (by omega) (by omega)).mpr (kc27)))) (fun c32 => ?_)
        refine lv_aload_n hx hb dX0_firstBrokenRule_72 rfl (lv_at hl 3 rfl) ?_
        refine lv_aload_n hx hb dX0_firstBrokenRule_73 rfl (lv_at hl 3 rfl) ?_
        refine lv_iload hx hb dX0_firstBrokenRule_74 (lv_at hl 0 rfl) ?_
        have hP := hP.sub (ws' := [] ++ []) [] rfl
        have hD := hD.sub (ws' := [] ++ []) [] (by decide) rfl
        refine xci (va_runS (As := [.ref (ra i), .ref (ra i), .int (un &&& (rev ^^^ (-1)))]) (rest := []) ⟨hx, hb, hml, hown, hts⟩ (kX0_hasQuorum l E rev un N ra pr i i (by first | assumption | omega) (by first | assumption | omega) (by first | assumption | omega) H.size) (va_cwS 3 hts gX0_firstBrokenRule_X0_hasQuorum rfl rfl rfl (by decide +kernel) ⟨Nat.le_of_ble_eq_true rfl, Nat.le_of_ble_eq_true rfl⟩) ⟨CP.blind, (xpreT (X := rowsW E N ra pr) hev hz hA hP hD hS hR0 hap [] rfl (fun q9 h9 => List.mem_append_right _ h9))⟩ rfl rfl hl.1 rfl (lv_room (Nat.le_of_ble_eq_true rfl)) dX0_firstBrokenRule_76 ⟨Nat.le_of_ble_eq_true rfl, Nat.le_of_ble_eq_true rfl⟩) hP hD hS hA (fun r33 w34 H locs h35 hP hD hS => ?_)
        obtain ⟨rfl, rfl, h35⟩ := h35
        try dsimp only at h35
        have hP : va_P E.1 vwCl [] H := hP
        have hD : va_D A [] := hD
        refine lv_if_ne (tgt := 84) hx hb dX0_firstBrokenRule_79 (by decide) (fun c36 => ?_) (fun c36 => ?_)
        · skip
          have kc36 := b1_n.mp c36
          have r4 : ¬ ((pr i).1 17 = 0 ∧ ¬ qM rev un (pr i) (pr i)) := fun q => q.2 kc36
          refine lv_aload_n hx hb dX0_firstBrokenRule_84 rfl (lv_at hl 2 rfl) ?_
          refine lv_aload_n hx hb dX0_firstBrokenRule_85 rfl (lv_at hl 3 rfl) ?_
          have hP := hP.sub (ws' := [] ++ []) [] rfl
          have hD := hD.sub (ws' := [] ++ []) [] (by decide) rfl
          refine xci (va_runV (As := [.ref (ra i)]) (rest := []) ⟨hx, hb, hml, hown, hts⟩ (kX0_hasFollowingVersion l E c0 cr rev sea ci N ra pr i (by first | assumption | omega) (by first | assumption | omega) (by first | assumption | omega) H.size) (cwV 1 hts gX0_firstBrokenRule_X0_hasFollowingVersion rfl rfl rfl (by decide +kernel) ⟨Nat.le_of_ble_eq_true rfl, Nat.le_of_ble_eq_true rfl⟩) ⟨CP.blind, (va_recv hev.1 (xro hR0 hap hS) (ci := 1) (q0 := 26) rfl rfl), (xpreT (X := rowsW E N ra pr) hev hz hA hP hD hS hR0 hap [26, 27] rfl (fun q9 h9 => List.mem_append_right _ h9))⟩ rfl rfl hl.1 rfl (lv_room (Nat.le_of_ble_eq_true rfl)) dX0_firstBrokenRule_86 ⟨Nat.le_of_ble_eq_true rfl, Nat.le_of_ble_eq_true rfl⟩) hP hD hS hA (fun r37 w38 H locs h39 hP hD hS => ?_)
          obtain ⟨rfl, rfl, h39⟩ := h39
          try dsimp only at h39
          have hP : va_P E.1 vwCl [] H := hP
          have hD : va_D A [] := hD
          refine lv_if_ne (tgt := 94) hx hb dX0_firstBrokenRule_89 (by decide) (fun c40 => ?_) (fun c40 => ?_)
          · skip
            have kc40 := b1_n.mp c40
            have r5 : ¬ ¬ folP ci pr i := fun q => q kc40
            refine lv_aload_n hx hb dX0_firstBrokenRule_94 rfl (lv_at hl 3 rfl) ?_
            refine lv_lload_n hx hb dX0_firstBrokenRule_95 rfl (lv_at hl 4 rfl) ?_
            have hP := hP.sub (ws' := [] ++ []) [] rfl
            have hD := hD.sub (ws' := [] ++ []) [] (by decide) rfl
            refine xci (va_runV (As := [.long t]) (rest := []) ⟨hx, hb, hml, hown, hts⟩ (kX4_isAliveAt l E (ra i) ((pr i).2.1 0) (nI ((pr i).1 17)) ((pr i).2.1 1) ((pr i).2.2.1) ((pr i).1 0) ((pr i).1 12) ((pr i).1 1) ((pr i).1 2) ((pr i).1 3) ((pr i).1 4) ((pr i).1 13) (nI ((pr i).1 14)) ((pr i).2.1 2) t  H.size) (cwV 1 hts gX0_firstBrokenRule_X4_isAliveAt rfl rfl rfl (by decide +kernel) ⟨Nat.le_of_ble_eq_true rfl, Nat.le_of_ble_eq_true rfl⟩) ⟨CP.blind, (va_recv hev.1 (xro hR0 hap hS) (ci := 5) (q0 := 13) rfl rfl), (xpre hev hz hA hP hD hS hR0 hap [13] rfl)⟩ rfl rfl hl.1 rfl (lv_room (Nat.le_of_ble_eq_true rfl)) dX0_firstBrokenRule_96 ⟨Nat.le_of_ble_eq_true rfl, Nat.le_of_ble_eq_true rfl⟩) hP hD hS hA (fun r41 w42 H locs h43 hP hD hS => ?_)
            obtain ⟨rfl, rfl, h43⟩ := h43
            try dsimp only at h43
            have hP : va_P E.1 vwCl [] H := hP
            have hD : va_D A [] := hD
            refine lv_if_ne (tgt := 105) hx hb dX0_firstBrokenRule_99 (by decide) (fun c44 => ?_) (fun c44 => ?_)
            · skip
              have kc44 := b1_n.mp c44
              have r6 := kc44
              refine lv_aload_n hx hb dX0_firstBrokenRule_105 rfl (lv_at hl 2 rfl) ?_
              refine lv_aload_n hx hb dX0_firstBrokenRule_106 rfl (lv_at hl 3 rfl) ?_
              refine lv_lload_n hx hb dX0_firstBrokenRule_107 rfl (lv_at hl 4 rfl) ?_
              have hP := hP.sub (ws' := [] ++ []) [] rfl
              have hD := hD.sub (ws' := [] ++ []) [] (by decide) rfl
              refine xci (va_runV (As := [.ref (ra i), .long t]) (rest := []) ⟨hx, hb, hml, hown, hts⟩ (kX0_isToldAsNeeded l E c0 cr rev sea ci N ra pr i t (by first | assumption | omega) (by first | assumption | omega) (by first | assumption | omega) H.size) (cwV 2 hts gX0_firstBrokenRule_X0_isToldAsNeeded rfl rfl rfl (by decide +kernel) ⟨Nat.le_of_ble_eq_true rfl, Nat.le_of_ble_eq_true rfl⟩) ⟨CP.blind, (va_recv hev.1 (xro hR0 hap hS) (ci := 1) (q0 := 26) rfl rfl), (xpreT (X := rowsW E N ra pr) hev hz hA hP hD hS hR0 hap [26, 27] rfl (fun q9 h9 => List.mem_append_right _ h9))⟩ rfl rfl hl.1 rfl (lv_room (Nat.le_of_ble_eq_true rfl)) dX0_firstBrokenRule_108 ⟨Nat.le_of_ble_eq_true rfl, Nat.le_of_ble_eq_true rfl⟩) hP hD hS hA (fun r45 w46 H locs h47 hP hD hS => ?_)
              obtain ⟨rfl, rfl, h47⟩ := h47
              try dsimp only at h47
              have hP : va_P E.1 vwCl [] H := hP
              have hD : va_D A [] := hD
              refine lv_if_ne (tgt := 117) hx hb dX0_firstBrokenRule_111 (by decide) (fun c48 => ?_) (fun c48 => ?_)
              · skip
                have kc48 := b1_n.mp c48
                have r7 : ¬ ¬ tolP ci pr t i := fun q => q kc48
                refine lv_aload_n hx hb dX0_firstBrokenRule_117 rfl (lv_at hl 2 rfl) ?_
                refine lv_aload_n hx hb dX0_firstBrokenRule_118 rfl (lv_at hl 3 rfl) ?_
                have hP := hP.sub (ws' := [] ++ []) [] rfl
                have hD := hD.sub (ws' := [] ++ []) [] (by decide) rfl
                refine xci (va_runV (As := [.ref (ra i)]) (rest := []) ⟨hx, hb, hml, hown, hts⟩ (kX0_keepsWhatWasTold l E c0 cr rev sea ci N ra pr i (by first | assumption | omega) (by first | assumption | omega) (by first | assumption | omega) H.size) (cwV 1 hts gX0_firstBrokenRule_X0_keepsWhatWasTold rfl rfl rfl (by decide +kernel) ⟨Nat.le_of_ble_eq_true rfl, Nat.le_of_ble_eq_true rfl⟩) ⟨CP.blind, (va_recv hev.1 (xro hR0 hap hS) (ci := 1) (q0 := 26) rfl rfl), (xpreT (X := rowsW E N ra pr) hev hz hA hP hD hS hR0 hap [26, 27] rfl (fun q9 h9 => List.mem_append_right _ h9))⟩ rfl rfl hl.1 rfl (lv_room (Nat.le_of_ble_eq_true rfl)) dX0_firstBrokenRule_119 ⟨Nat.le_of_ble_eq_true rfl, Nat.le_of_ble_eq_true rfl⟩) hP hD hS hA (fun r49 w50 H locs h51 hP hD hS => ?_)
                obtain ⟨rfl, rfl, h51⟩ := h51
                try dsimp only at h51
                have hP : va_P E.1 vwCl [] H := hP
                have hD : va_D A [] := hD
                refine lv_if_eq (tgt := 129) hx hb dX0_firstBrokenRule_122 (by decide) (fun c52 => ?_) (fun c52 => ?_)
                · skip
                  have kc52 := b1_0.mp c52
                  refine lv_bipush (v := 8) hx hb dX0_firstBrokenRule_129 (by decide) ?_
                  refine xri hx hb hr hlocks hP hD hS ⟨rfl, ?_, ?_⟩ dX0_firstBrokenRule_131
                  · rw [fbr, pick_f r2, pick_f r3, pick_f r4, pick_f r5, pick_f r6, pick_f r7, pick_t kc52]
                    rfl
                  · trivial
                · skip
                  have kc52 := b1_n.mp c52
                  refine lv_iconst (v := 0) hx hb dX0_firstBrokenRule_125 (by decide) ?_
                  refine lv_goto (tgt := 131) hx hb dX0_firstBrokenRule_126 (by decide) ?_
                  refine xri hx hb hr hlocks hP hD hS ⟨rfl, ?_, ?_⟩ dX0_firstBrokenRule_131
                  · rw [fbr, pick_f r2, pick_f r3, pick_f r4, pick_f r5, pick_f r6, pick_f r7, pick_f (fun q => q kc52)]
                    rfl
                  · trivial
              · skip
                have kc48 := b1_0.mp c48
                refine lv_bipush (v := 7) hx hb dX0_firstBrokenRule_114 (by decide) ?_
                refine xri hx hb hr hlocks hP hD hS ⟨rfl, ?_, ?_⟩ dX0_firstBrokenRule_116
                · rw [fbr, pick_f r2, pick_f r3, pick_f r4, pick_f r5, pick_f r6, pick_t kc48]
                  rfl
                · trivial
            · skip
              have kc44 := b1_0.mp c44
              refine lv_bipush (v := 6) hx hb dX0_firstBrokenRule_102 (by decide) ?_
              refine xri hx hb hr hlocks hP hD hS ⟨rfl, ?_, ?_⟩ dX0_firstBrokenRule_104
              · rw [fbr, pick_f r2, pick_f r3, pick_f r4, pick_f r5, pick_t (Classical.not_not.mp kc44)]
                rfl
              · trivial
          · skip
            have kc40 := b1_0.mp c40
            refine lv_iconst (v := 5) hx hb dX0_firstBrokenRule_92 (by decide) ?_
            refine xri hx hb hr hlocks hP hD hS ⟨rfl, ?_, ?_⟩ dX0_firstBrokenRule_93
            · rw [fbr, pick_f r2, pick_f r3, pick_f r4, pick_t kc40]
              rfl
            · trivial
        · skip
          have kc36 := b1_0.mp c36
          refine lv_iconst (v := 4) hx hb dX0_firstBrokenRule_82 (by decide) ?_
          refine xri hx hb hr hlocks hP hD hS ⟨rfl, ?_, ?_⟩ dX0_firstBrokenRule_83
          · rw [fbr, pick_f r2, pick_f r3, pick_t ⟨kc27, kc36⟩]
            rfl
          · trivial
      · skip
        have kc31 := b1_0.mp c31
        refine lv_iconst (v := 3) hx hb dX0_firstBrokenRule_63 (by decide) ?_
        refine xri hx hb hr hlocks hP hD hS ⟨rfl, ?_, ?_⟩ dX0_firstBrokenRule_64
        · rw [fbr, pick_f r2, pick_t (fun q => kc31 (q kk o4))]
          rfl
        · trivial
    · skip
      have kc27 : ¬ ((pr i).1 17) = 0 := fun h9 => c27 ((nI_eq (a := ((pr i).1 17)) (b := 0) (by omega) (by omega)).mpr h9)
      refine lv_aload hx hb dX0_firstBrokenRule_31 (lv_at hl 1 rfl) ?_
      refine lv_ifnull hx hb dX0_firstBrokenRule_33 ?_
      refine lv_aload hx hb dX0_firstBrokenRule_36 (lv_at hl 1 rfl) ?_
      refine lv_lload_n hx hb dX0_firstBrokenRule_38 rfl (lv_at hl 4 rfl) ?_
      have hP := hP.sub (ws' := [] ++ []) [] rfl
      have hD := hD.sub (ws' := [] ++ []) [] (by decide) rfl
      refine xci (va_runV (As := [.long t]) (rest := []) ⟨hx, hb, hml, hown, hts⟩ (kX4_isAliveAt l E (ra kk) ((pr kk).2.1 0) (nI ((pr kk).1 17)) ((pr kk).2.1 1) ((pr kk).2.2.1) ((pr kk).1 0) ((pr kk).1 12) ((pr kk).1 1) ((pr kk).1 2) ((pr kk).1 3) ((pr kk).1 4) ((pr kk).1 13) (nI ((pr kk).1 14)) ((pr kk).2.1 2) t  H.size) (cwV 1 hts gX0_firstBrokenRule_X4_isAliveAt rfl rfl rfl (by decide +kernel) ⟨Nat.le_of_ble_eq_true rfl, Nat.le_of_ble_eq_true rfl⟩) ⟨CP.blind, (va_recv hev.1 (xro hR0 hap hS) (ci := 5) (q0 := 0) rfl rfl), (xpre hev hz hA hP hD hS hR0 hap [0] rfl)⟩ rfl rfl hl.1 rfl (lv_room (Nat.le_of_ble_eq_true rfl)) dX0_firstBrokenRule_39 ⟨Nat.le_of_ble_eq_true rfl, Nat.le_of_ble_eq_true rfl⟩) hP hD hS hA (fun r53 w54 H locs h55 hP hD hS => ?_)
      obtain ⟨rfl, rfl, h55⟩ := h55
      try dsimp only at h55
      have hP : va_P E.1 vwCl [] H := hP
      have hD : va_D A [] := hD
      refine lv_if_ne (tgt := 47) hx hb dX0_firstBrokenRule_42 (by decide) (fun c56 => ?_) (fun c56 => ?_)
      · skip
        have kc56 := b1_n.mp c56
        have r2 : ¬ (¬ (pr i).1 17 = 0 ∧ ¬ alvP ci pr t) := fun q => q.2 ⟨kk, o4, kc56⟩
        refine lv_aload hx hb dX0_firstBrokenRule_47 (lv_at hl 1 rfl) ?_
        refine lv_ifnull hx hb dX0_firstBrokenRule_49 ?_
        refine lv_aload_n hx hb dX0_firstBrokenRule_52 rfl (lv_at hl 3 rfl) ?_
        refine lv_aload hx hb dX0_firstBrokenRule_53 (lv_at hl 1 rfl) ?_
        refine lv_iload hx hb dX0_firstBrokenRule_55 (lv_at hl 0 rfl) ?_
        have hP := hP.sub (ws' := [] ++ []) [] rfl
        have hD := hD.sub (ws' := [] ++ []) [] (by decide) rfl
        refine xci (va_runS (As := [.ref (ra i), .ref (ra kk), .int (un &&& (rev ^^^ (-1)))]) (rest := []) ⟨hx, hb, hml, hown, hts⟩ (kX0_hasQuorum l E rev un N ra pr i kk (by first | assumption | omega) (by first | assumption | omega) (by first | assumption | omega) H.size) (va_cwS 3 hts gX0_firstBrokenRule_X0_hasQuorum rfl rfl rfl (by decide +kernel) ⟨Nat.le_of_ble_eq_true rfl, Nat.le_of_ble_eq_true rfl⟩) ⟨CP.blind, (xpreT (X := rowsW E N ra pr) hev hz hA hP hD hS hR0 hap [] rfl (fun q9 h9 => List.mem_append_right _ h9))⟩ rfl rfl hl.1 rfl (lv_room (Nat.le_of_ble_eq_true rfl)) dX0_firstBrokenRule_57 ⟨Nat.le_of_ble_eq_true rfl, Nat.le_of_ble_eq_true rfl⟩) hP hD hS hA (fun r57 w58 H locs h59 hP hD hS => ?_)
        obtain ⟨rfl, rfl, h59⟩ := h59
        try dsimp only at h59
        have hP : va_P E.1 vwCl [] H := hP
        have hD : va_D A [] := hD
        refine lv_if_ne (tgt := 65) hx hb dX0_firstBrokenRule_60 (by decide) (fun c60 => ?_) (fun c60 => ?_)
        · skip
          have kc60 := b1_n.mp c60
          have r3 : ¬ ¬ qumP ci pr rev un i := fun q => q (fun k9 h9 => by rw [o4] at h9; cases h9; exact kc60)
          refine lv_aload_n hx hb dX0_firstBrokenRule_65 rfl (lv_at hl 3 rfl) ?_
          refine va_getN (D := E.1) (ci := 5) (v := .int (nI ((pr i).1 17))) (C := RX4) (T := TX4) (N := 13) hx hb hts hiX4 hown hev.1 (xro hR0 hap hS) 13 rfl rfl 1 (by decide) (xNF7 hev.2.1) (fun _ h9 => h9) rfl dX0_firstBrokenRule_66 ?_
          refine lv_if_ne (tgt := 84) hx hb dX0_firstBrokenRule_69 (by decide) (fun c61 => ?_) (fun c61 => absurd c61 (fun h9 => absurd ((nI_eq (a := ((pr i).1 17)) (b := 0) (by omega) (by omega)).mp h9) (kc27)))
          have r4 : ¬ ((pr i).1 17 = 0 ∧ ¬ qM rev un (pr i) (pr i)) := fun q => kc27 q.1
          refine lv_aload_n hx hb dX0_firstBrokenRule_84 rfl (lv_at hl 2 rfl) ?_
          refine lv_aload_n hx hb dX0_firstBrokenRule_85 rfl (lv_at hl 3 rfl) ?_
          have hP := hP.sub (ws' := [] ++ []) [] rfl
          have hD := hD.sub (ws' := [] ++ []) [] (by decide) rfl
          refine xci (va_runV (As := [.ref (ra i)]) (rest := []) ⟨hx, hb, hml, hown, hts⟩ (kX0_hasFollowingVersion l E c0 cr rev sea ci N ra pr i (by first | assumption | omega) (by first | assumption | omega) (by first | assumption | omega) H.size) (cwV 1 hts gX0_firstBrokenRule_X0_hasFollowingVersion rfl rfl rfl (by decide +kernel) ⟨Nat.le_of_ble_eq_true rfl, Nat.le_of_ble_eq_true rfl⟩) ⟨CP.blind, (va_recv hev.1 (xro hR0 hap hS) (ci := 1) (q0 := 26) rfl rfl), (xpreT (X := rowsW E N ra pr) hev hz hA hP hD hS hR0 hap [26, 27] rfl (fun q9 h9 => List.mem_append_right _ h9))⟩ rfl rfl hl.1 rfl (lv_room (Nat.le_of_ble_eq_true rfl)) dX0_firstBrokenRule_86 ⟨Nat.le_of_ble_eq_true rfl, Nat.le_of_ble_eq_true rfl⟩) hP hD hS hA (fun r62 w63 H locs h64 hP hD hS => ?_)
          obtain ⟨rfl, rfl, h64⟩ := h64
          try dsimp only at h64
          have hP : va_P E.1 vwCl [] H := hP
          have hD : va_D A [] := hD
          refine lv_if_ne (tgt := 94) hx hb dX0_firstBrokenRule_89 (by decide) (fun c65 => ?_) (fun c65 => ?_)
          · skip
            have kc65 := b1_n.mp c65
            have r5 : ¬ ¬ folP ci pr i := fun q => q kc65
            refine lv_aload_n hx hb dX0_firstBrokenRule_94 rfl (lv_at hl 3 rfl) ?_
            refine lv_lload_n hx hb dX0_firstBrokenRule_95 rfl (lv_at hl 4 rfl) ?_
            have hP := hP.sub (ws' := [] ++ []) [] rfl
            have hD := hD.sub (ws' := [] ++ []) [] (by decide) rfl
            refine xci (va_runV (As := [.long t]) (rest := []) ⟨hx, hb, hml, hown, hts⟩ (kX4_isAliveAt l E (ra i) ((pr i).2.1 0) (nI ((pr i).1 17)) ((pr i).2.1 1) ((pr i).2.2.1) ((pr i).1 0) ((pr i).1 12) ((pr i).1 1) ((pr i).1 2) ((pr i).1 3) ((pr i).1 4) ((pr i).1 13) (nI ((pr i).1 14)) ((pr i).2.1 2) t  H.size) (cwV 1 hts gX0_firstBrokenRule_X4_isAliveAt rfl rfl rfl (by decide +kernel) ⟨Nat.le_of_ble_eq_true rfl, Nat.le_of_ble_eq_true rfl⟩) ⟨CP.blind, (va_recv hev.1 (xro hR0 hap hS) (ci := 5) (q0 := 13) rfl rfl), (xpre hev hz hA hP hD hS hR0 hap [13] rfl)⟩ rfl rfl hl.1 rfl (lv_room (Nat.le_of_ble_eq_true rfl)) dX0_firstBrokenRule_96 ⟨Nat.le_of_ble_eq_true rfl, Nat.le_of_ble_eq_true rfl⟩) hP hD hS hA (fun r66 w67 H locs h68 hP hD hS => ?_)
            obtain ⟨rfl, rfl, h68⟩ := h68
            try dsimp only at h68
            have hP : va_P E.1 vwCl [] H := hP
            have hD : va_D A [] := hD
            refine lv_if_ne (tgt := 105) hx hb dX0_firstBrokenRule_99 (by decide) (fun c69 => ?_) (fun c69 => ?_)
            · skip
              have kc69 := b1_n.mp c69
              have r6 := kc69
              refine lv_aload_n hx hb dX0_firstBrokenRule_105 rfl (lv_at hl 2 rfl) ?_
              refine lv_aload_n hx hb dX0_firstBrokenRule_106 rfl (lv_at hl 3 rfl) ?_
              refine lv_lload_n hx hb dX0_firstBrokenRule_107 rfl (lv_at hl 4 rfl) ?_
              have hP := hP.sub (ws' := [] ++ []) [] rfl
              have hD := hD.sub (ws' := [] ++ []) [] (by decide) rfl
              refine xci (va_runV (As := [.ref (ra i), .long t]) (rest := []) ⟨hx, hb, hml, hown, hts⟩ (kX0_isToldAsNeeded l E c0 cr rev sea ci N ra pr i t (by first | assumption | omega) (by first | assumption | omega) (by first | assumption | omega) H.size) (cwV 2 hts gX0_firstBrokenRule_X0_isToldAsNeeded rfl rfl rfl (by decide +kernel) ⟨Nat.le_of_ble_eq_true rfl, Nat.le_of_ble_eq_true rfl⟩) ⟨CP.blind, (va_recv hev.1 (xro hR0 hap hS) (ci := 1) (q0 := 26) rfl rfl), (xpreT (X := rowsW E N ra pr) hev hz hA hP hD hS hR0 hap [26, 27] rfl (fun q9 h9 => List.mem_append_right _ h9))⟩ rfl rfl hl.1 rfl (lv_room (Nat.le_of_ble_eq_true rfl)) dX0_firstBrokenRule_108 ⟨Nat.le_of_ble_eq_true rfl, Nat.le_of_ble_eq_true rfl⟩) hP hD hS hA (fun r70 w71 H locs h72 hP hD hS => ?_)
              obtain ⟨rfl, rfl, h72⟩ := h72
              try dsimp only at h72
              have hP : va_P E.1 vwCl [] H := hP
              have hD : va_D A [] := hD
              refine lv_if_ne (tgt := 117) hx hb dX0_firstBrokenRule_111 (by decide) (fun c73 => ?_) (fun c73 => ?_)
              · skip
                have kc73 := b1_n.mp c73
                have r7 : ¬ ¬ tolP ci pr t i := fun q => q kc73
                refine lv_aload_n hx hb dX0_firstBrokenRule_117 rfl (lv_at hl 2 rfl) ?_
                refine lv_aload_n hx hb dX0_firstBrokenRule_118 rfl (lv_at hl 3 rfl) ?_
                have hP := hP.sub (ws' := [] ++ []) [] rfl
                have hD := hD.sub (ws' := [] ++ []) [] (by decide) rfl
                refine xci (va_runV (As := [.ref (ra i)]) (rest := []) ⟨hx, hb, hml, hown, hts⟩ (kX0_keepsWhatWasTold l E c0 cr rev sea ci N ra pr i (by first | assumption | omega) (by first | assumption | omega) (by first | assumption | omega) H.size) (cwV 1 hts gX0_firstBrokenRule_X0_keepsWhatWasTold rfl rfl rfl (by decide +kernel) ⟨Nat.le_of_ble_eq_true rfl, Nat.le_of_ble_eq_true rfl⟩) ⟨CP.blind, (va_recv hev.1 (xro hR0 hap hS) (ci := 1) (q0 := 26) rfl rfl), (xpreT (X := rowsW E N ra pr) hev hz hA hP hD hS hR0 hap [26, 27] rfl (fun q9 h9 => List.mem_append_right _ h9))⟩ rfl rfl hl.1 rfl (lv_room (Nat.le_of_ble_eq_true rfl)) dX0_firstBrokenRule_119 ⟨Nat.le_of_ble_eq_true rfl, Nat.le_of_ble_eq_true rfl⟩) hP hD hS hA (fun r74 w75 H locs h76 hP hD hS => ?_)
                obtain ⟨rfl, rfl, h76⟩ := h76
                try dsimp only at h76
                have hP : va_P E.1 vwCl [] H := hP
                have hD : va_D A [] := hD
                refine lv_if_eq (tgt := 129) hx hb dX0_firstBrokenRule_122 (by decide) (fun c77 => ?_) (fun c77 => ?_)
                · skip
                  have kc77 := b1_0.mp c77
                  refine lv_bipush (v := 8) hx hb dX0_firstBrokenRule_129 (by decide) ?_
                  refine xri hx hb hr hlocks hP hD hS ⟨rfl, ?_, ?_⟩ dX0_firstBrokenRule_131
                  · rw [fbr, pick_f r2, pick_f r3, pick_f r4, pick_f r5, pick_f r6, pick_f r7, pick_t kc77]
                    rfl
                  · trivial
                · skip
                  have kc77 := b1_n.mp c77
                  refine lv_iconst (v := 0) hx hb dX0_firstBrokenRule_125 (by decide) ?_
                  refine lv_goto (tgt := 131) hx hb dX0_firstBrokenRule_126 (by decide) ?_
                  refine xri hx hb hr hlocks hP hD hS ⟨rfl, ?_, ?_⟩ dX0_firstBrokenRule_131
                  · rw [fbr, pick_f r2, pick_f r3, pick_f r4, pick_f r5, pick_f r6, pick_f r7, pick_f (fun q => q kc77)]
                    rfl
                  · trivial
              · skip
                have kc73 := b1_0.mp c73
                refine lv_bipush (v := 7) hx hb dX0_firstBrokenRule_114 (by decide) ?_
                refine xri hx hb hr hlocks hP hD hS ⟨rfl, ?_, ?_⟩ dX0_firstBrokenRule_116
                · rw [fbr, pick_f r2, pick_f r3, pick_f r4, pick_f r5, pick_f r6, pick_t kc73]
                  rfl
                · trivial
            · skip
              have kc69 := b1_0.mp c69
              refine lv_bipush (v := 6) hx hb dX0_firstBrokenRule_102 (by decide) ?_
              refine xri hx hb hr hlocks hP hD hS ⟨rfl, ?_, ?_⟩ dX0_firstBrokenRule_104
              · rw [fbr, pick_f r2, pick_f r3, pick_f r4, pick_f r5, pick_t (Classical.not_not.mp kc69)]
                rfl
              · trivial
          · skip
            have kc65 := b1_0.mp c65
            refine lv_iconst (v := 5) hx hb dX0_firstBrokenRule_92 (by decide) ?_
            refine xri hx hb hr hlocks hP hD hS ⟨rfl, ?_, ?_⟩ dX0_firstBrokenRule_93
            · rw [fbr, pick_f r2, pick_f r3, pick_f r4, pick_t kc65]
              rfl
            · trivial
        · skip
          have kc60 := b1_0.mp c60
          refine lv_iconst (v := 3) hx hb dX0_firstBrokenRule_63 (by decide) ?_
          refine xri hx hb hr hlocks hP hD hS ⟨rfl, ?_, ?_⟩ dX0_firstBrokenRule_64
          · rw [fbr, pick_f r2, pick_t (fun q => kc60 (q kk o4))]
            rfl
          · trivial
      · skip
        have kc56 := b1_0.mp c56
        refine lv_iconst (v := 2) hx hb dX0_firstBrokenRule_45 (by decide) ?_
        refine xri hx hb hr hlocks hP hD hS ⟨rfl, ?_, ?_⟩ dX0_firstBrokenRule_46
        · rw [fbr, pick_t ⟨kc27, fun ⟨k9, h9, g9⟩ => by rw [o4] at h9; cases h9; exact kc56 g9⟩]
          rfl
        · trivial

abbrev pX0_firstBrokenRuleN (E : xE) (c0 : Nat) (cr : Nat) (rev : Int32) (sea : Int32) (t : Int64) (un : Int32) (r : Int32) (w : va_W) : Prop := w = [] ∧ r = 1 ∧ (True)
set_option maxHeartbeats 4000000 in
set_option maxRecDepth 100000 in
theorem kX0_firstBrokenRuleN (l : Launch) (E : xE) (c0 : Nat) (cr : Nat) (rev : Int32) (sea : Int32) (t : Int64) (un : Int32)  : KT l yX0_firstBrokenRule wsX0_firstBrokenRule 0 0 0 0 E [] [] [.ref c0, .null, .long t, .int un] (QI E (pX0_firstBrokenRuleN E c0 cr rev sea t un)) := by
  refine KT.start (cc := cX0_firstBrokenRule) (maxL := 7) (ret := (some .int)) (by decide) rfl (Nat.le_of_ble_eq_true rfl) ?_
  intro p e s m below meth c A H hx hb hr hlocks hml hts hown hin hP hR0 hD hap hev hz hA hS ls hl
  have hl : lv_has ls 7 [(0, .ref c0), (1, .null), (2, .long t), (4, .int un)] := hl
  refine lv_aload_nN hx hb dX0_firstBrokenRule_0 rfl (lv_at hl 1 rfl) ?_
  refine lv_ifnonnullN hx hb dX0_firstBrokenRule_1 ?_
  refine lv_iconst (v := 1) hx hb dX0_firstBrokenRule_4 (by decide) ?_
  refine xri hx hb hr hlocks hP hD hS ⟨rfl, ?_, ?_⟩ dX0_firstBrokenRule_5
  · rfl
  · trivial

abbrev pX0_take (E : xE) (c0 : Nat) (cr : Nat) (rev : Int32) (sea : Int32) (cu : Nat → Option Nat) (w0 : Nat) (nu : Int32) (j : Nat) (ver : Int32) (unt : Int64) (oa : Nat) (oc : Nat) (qo : Nat) (tq : Nat) (dq : Nat) (ha : Nat) (pn : Nat) (sg : Int32) (rk : Int32) (w : va_W) : Prop := ∃ (cu2 : Nat → Option Nat), w = [(cr, aR E 10 cu2), (w0, .inr (5, [.int nu, .int (nI j), .int ver, .long unt, .ref oa, .int (nI oc), .ref qo, .ref tq, .ref dq, .ref ha, .int (nI pn), .int sg, .int rk]))] ∧ (cu2 = va_up cu j (some w0))
set_option maxHeartbeats 4000000 in
set_option maxRecDepth 100000 in
theorem kX0_take (l : Launch) (E : xE) (c0 : Nat) (cr : Nat) (rev : Int32) (sea : Int32) (cu : Nat → Option Nat) (w0 : Nat) (nu : Int32) (j : Nat) (ver : Int32) (unt : Int64) (oa : Nat) (oc : Nat) (qo : Nat) (tq : Nat) (dq : Nat) (ha : Nat) (pn : Nat) (sg : Int32) (rk : Int32) (hj : j < 10) : KT l yX0_take wsX0_take 1 20 0 0 E [(cr, aR E 10 cu), (w0, .inr (5, [.int nu, .int (nI j), .int ver, .long unt, .ref oa, .int (nI oc), .ref qo, .ref tq, .ref dq, .ref ha, .int (nI pn), .int sg, .int rk]))] [(c0, .inr (1, [.ref cr, .int rev, .int sea]))] [.ref c0, .ref w0] (QV E (pX0_take E c0 cr rev sea cu w0 nu j ver unt oa oc qo tq dq ha pn sg rk)) := by
  refine KT.start (cc := cX0_take) (maxL := 2) (ret := none) (by decide) rfl (Nat.le_of_ble_eq_true rfl) ?_
  intro p e s m below meth c A H hx hb hr hlocks hml hts hown hin hP hR0 hD hap hev hz hA hS ls hl
  have hl : lv_has ls 2 [(0, .ref c0), (1, .ref w0)] := hl
  have hiX0 : ∀ w ∈ wsX00, w ∈ wsX0_take := by decide +kernel
  have hiX4 : ∀ w ∈ wsX40, w ∈ wsX0_take := by decide +kernel
  have hf11 := hts (.fieldLink RX0 11 "SignQuorum$Client" "currentRows" "[LSignQuorum$Row;") (by decide +kernel)
  have hiniX7 := hts (.initialized RX7) (by decide +kernel)
  have hstX7_isRole := hts (.static yX7_isRole) (by decide +kernel)
  refine lv_aload_n hx hb dX0_take_0 rfl (lv_at hl 1 rfl) ?_
  refine lv_ifnull hx hb dX0_take_1 ?_
  refine lv_aload_n hx hb dX0_take_4 rfl (lv_at hl 1 rfl) ?_
  refine va_getN (D := E.1) (ci := 5) (v := .int (nI j)) (C := RX4) (T := TX4) (N := 13) hx hb hts hiX4 hown hev.1 hP 1 rfl rfl 1 (by decide) (xNF7 hev.2.1) (fun _ h9 => h9) rfl dX0_take_5 ?_
  have hP := hP.sub (ws' := [] ++ [(cr, aR E 10 cu), (w0, .inr (5, [.int nu, .int (nI j), .int ver, .long unt, .ref oa, .int (nI oc), .ref qo, .ref tq, .ref dq, .ref ha, .int (nI pn), .int sg, .int rk]))]) [0, 1] rfl
  have hD := hD.sub (ws' := [] ++ [(cr, aR E 10 cu), (w0, .inr (5, [.int nu, .int (nI j), .int ver, .long unt, .ref oa, .int (nI oc), .ref qo, .ref tq, .ref dq, .ref ha, .int (nI pn), .int sg, .int rk]))]) [0, 1] (by decide) rfl
  refine xci (va_runSN (As := [.int (nI j)]) (rest := []) ⟨hx, hb, hml, hown, hts⟩ (kX7_isRole l E (nI j)  H.size) ⟨va_cnB 1 hts gX0_take_X7_isRole_n24 rfl rfl rfl (xNM5 hev.2.1) hiniX7 (by decide +kernel) ⟨Nat.le_of_ble_eq_true rfl, Nat.le_of_ble_eq_true rfl⟩, hstX7_isRole, trivial⟩ ⟨CP.blind, (xpre hev hz hA hP hD hS hR0 hap [] rfl)⟩ rfl rfl hl.1 rfl (lv_room (Nat.le_of_ble_eq_true rfl)) dX0_take_8 ⟨Nat.le_of_ble_eq_true rfl, Nat.le_of_ble_eq_true rfl⟩) hP hD hS hA (fun r1 w2 H locs h3 hP hD hS => ?_)
  obtain ⟨rfl, rfl, h3⟩ := h3
  try dsimp only at h3
  have hP : va_P E.1 vwCl [(cr, aR E 10 cu), (w0, .inr (5, [.int nu, .int (nI j), .int ver, .long unt, .ref oa, .int (nI oc), .ref qo, .ref tq, .ref dq, .ref ha, .int (nI pn), .int sg, .int rk]))] H := hP
  have hD : va_D A [(cr, aR E 10 cu), (w0, .inr (5, [.int nu, .int (nI j), .int ver, .long unt, .ref oa, .int (nI oc), .ref qo, .ref tq, .ref dq, .ref ha, .int (nI pn), .int sg, .int rk]))] := hD
  refine lv_if_eq (tgt := 24) hx hb dX0_take_11 (by decide) (fun c4 => absurd c4 (b1_n.mpr (⟨j, hj, rfl⟩))) (fun c4 => ?_)
  refine lv_aload_n hx hb dX0_take_14 rfl (lv_at hl 0 rfl) ?_
  refine va_get (D := E.1) (ci := 1) (v := .ref cr) (C := RX0) (T := TX0) (N := 3) hx hb hts hiX0 hown hev.1 (xro hR0 hap hS) 0 rfl rfl 0 (by decide) hf11 (fun _ h9 => h9) rfl dX0_take_15 ?_
  refine lv_aload_n hx hb dX0_take_18 rfl (lv_at hl 1 rfl) ?_
  refine va_getN (D := E.1) (ci := 5) (v := .int (nI j)) (C := RX4) (T := TX4) (N := 13) hx hb hts hiX4 hown hev.1 hP 1 rfl rfl 1 (by decide) (xNF7 hev.2.1) (fun _ h9 => h9) rfl dX0_take_19 ?_
  refine lv_aload_n hx hb dX0_take_22 rfl (lv_at hl 1 rfl) ?_
  refine xastq (k := j) (r := (RX4, TX4, 13)) hx hb hev.1 hP hD hS 0 4 1 5 rfl rfl rfl rfl (by omega) (by decide) dX0_take_23 (fun H locs hP hD hS => ?_)
  obtain ⟨f5, ef5⟩ : ∃ y9_ : Nat → Option Nat, y9_ = va_up cu j (some w0) := ⟨_, rfl⟩
  rw [← ef5] at hP hD
  have hP : va_P E.1 vwCl [(cr, aR E 10 f5), (w0, .inr (5, [.int nu, .int (nI j), .int ver, .long unt, .ref oa, .int (nI oc), .ref qo, .ref tq, .ref dq, .ref ha, .int (nI pn), .int sg, .int rk]))] H := hP
  have hD : va_D A [(cr, aR E 10 f5), (w0, .inr (5, [.int nu, .int (nI j), .int ver, .long unt, .ref oa, .int (nI oc), .ref qo, .ref tq, .ref dq, .ref ha, .int (nI pn), .int sg, .int rk]))] := hD
  refine xrv hx hb hr hlocks hP hD hS ⟨f5, rfl, ?_⟩ dX0_take_24
  assumption

abbrev pX7_rowAt (E : xE) (x : Nat) (rg : Nat) (dr : Nat) (rs : Nat) (nr : Int32) (c0 : Nat) (h : Nat) (td : Nat) (rf : Nat → Option Nat) (y : Int32) (r : Option Nat) (w : va_W) : Prop := w = [] ∧ r = rAt rf y ∧ (True)
set_option maxHeartbeats 4000000 in
set_option maxRecDepth 100000 in
theorem kX7_rowAt (l : Launch) (E : xE) (x : Nat) (rg : Nat) (dr : Nat) (rs : Nat) (nr : Int32) (c0 : Nat) (h : Nat) (td : Nat) (rf : Nat → Option Nat) (y : Int32)  : KT l yX7_rowAt wsX7_rowAt 0 0 0 0 E [] [(x, .inr (8, [.ref rg, .ref dr, .ref rs, .int nr, .ref c0, .ref h, .ref td])), (rs, aR E 24 rf)] [.ref x, .int y] (QR E (pX7_rowAt E x rg dr rs nr c0 h td rf y)) := by
  refine KT.start (cc := cX7_rowAt) (maxL := 2) (ret := (some (.object "SignQuorum$Row"))) (by decide) rfl (Nat.le_of_ble_eq_true rfl) ?_
  intro p e s m below meth c A H hx hb hr hlocks hml hts hown hin hP hR0 hD hap hev hz hA hS ls hl
  have hl : lv_has ls 2 [(0, .ref x), (1, .int y)] := hl
  have hiX7 : ∀ w ∈ wsX70, w ∈ wsX7_rowAt := by decide +kernel
  have hf25 := hts (.fieldLink RX7 25 "SignQuorum" "rows" "[LSignQuorum$Row;") (by decide +kernel)
  refine lv_iload_n hx hb dX7_rowAt_0 rfl (lv_at hl 1 rfl) ?_
  refine lv_if_lt (tgt := 22) hx hb dX7_rowAt_1 (by decide) (fun c1 => ?_) (fun c1 => ?_)
  · skip
    refine lv_null hx hb dX7_rowAt_22 ?_
    refine xrr (v := none) hx hb hr hlocks hP hD hS ⟨rfl, ?_, ?_⟩ dX7_rowAt_23
    · exact (rAt_f (isN_no1 c1 (by decide))).symm
    · trivial
  · skip
    refine lv_iload_n hx hb dX7_rowAt_4 rfl (lv_at hl 1 rfl) ?_
    refine lv_aload_n hx hb dX7_rowAt_5 rfl (lv_at hl 0 rfl) ?_
    refine va_get (D := E.1) (ci := 8) (v := .ref rs) (C := RX7) (T := TX7) (N := 7) hx hb hts hiX7 hown hev.1 (xro hR0 hap hS) 0 rfl rfl 2 (by decide) hf25 (fun _ h9 => h9) rfl dX7_rowAt_6 ?_
    refine va_alen (v := 24) hx hb hev.1 (xro hR0 hap hS) 1 4 rfl rfl rfl dX7_rowAt_9 ?_
    refine lv_icmp_ge (tgt := 22) hx hb dX7_rowAt_10 (by decide) (fun c2 => ?_) (fun c2 => ?_)
    · skip
      refine lv_null hx hb dX7_rowAt_22 ?_
      refine xrr (v := none) hx hb hr hlocks hP hD hS ⟨rfl, ?_, ?_⟩ dX7_rowAt_23
      · exact (rAt_f (isN_no2 (n := 24) c2 (by decide))).symm
      · trivial
    · skip
      refine lv_aload_n hx hb dX7_rowAt_13 rfl (lv_at hl 0 rfl) ?_
      refine va_get (D := E.1) (ci := 8) (v := .ref rs) (C := RX7) (T := TX7) (N := 7) hx hb hts hiX7 hown hev.1 (xro hR0 hap hS) 0 rfl rfl 2 (by decide) hf25 (fun _ h9 => h9) rfl dX7_rowAt_14 ?_
      refine lv_iload_n hx hb dX7_rowAt_17 rfl (lv_at hl 1 rfl) ?_
      refine va_aldq hx hb hev.1 (xro hR0 hap hS) 1 4 rfl rfl (by obtain ⟨j, hj, rfl⟩ := in_t 24 c1 c2 (by decide); exact vp_in_nI hj (by decide)) dX7_rowAt_18 ?_
      refine lv_goto (tgt := 23) hx hb dX7_rowAt_19 (by decide) ?_
      refine xrr (v := (rf y.toNatClampNeg)) hx hb hr hlocks hP hD hS ⟨rfl, ?_, ?_⟩ dX7_rowAt_23
      · exact (rAt_t (in_t 24 c1 c2 (by decide))).symm
      · trivial

abbrev pX7_openRowN (E : xE) (x : Nat) (rg : Nat) (dr : Nat) (rs : Nat) (nr : Int32) (c0 : Nat) (h : Nat) (td : Nat) (rf : Nat → Option Nat) (y : Int32) (r : Option Nat) (w : va_W) : Prop := w = [] ∧ r = none ∧ (True)
set_option maxHeartbeats 4000000 in
set_option maxRecDepth 100000 in
theorem kX7_openRowN (l : Launch) (E : xE) (x : Nat) (rg : Nat) (dr : Nat) (rs : Nat) (nr : Int32) (c0 : Nat) (h : Nat) (td : Nat) (rf : Nat → Option Nat) (y : Int32) (hrx : rAt rf y = none) : KT l yX7_openRow wsX7_openRow 1 21 0 0 E [] [(x, .inr (8, [.ref rg, .ref dr, .ref rs, .int nr, .ref c0, .ref h, .ref td])), (rs, aR E 24 rf)] [.ref x, .int y] (QR E (pX7_openRowN E x rg dr rs nr c0 h td rf y)) := by
  refine KT.start (cc := cX7_openRow) (maxL := 3) (ret := (some (.object "SignQuorum$Row"))) (by decide) rfl (Nat.le_of_ble_eq_true rfl) ?_
  intro p e s m below meth c A H hx hb hr hlocks hml hts hown hin hP hR0 hD hap hev hz hA hS ls hl
  have hl : lv_has ls 3 [(0, .ref x), (1, .int y)] := hl
  refine lv_aload_n hx hb dX7_openRow_0 rfl (lv_at hl 0 rfl) ?_
  refine lv_iload_n hx hb dX7_openRow_1 rfl (lv_at hl 1 rfl) ?_
  have hP := hP.sub (ws' := [] ++ []) [] rfl
  have hD := hD.sub (ws' := [] ++ []) [] (by decide) rfl
  refine xcr (va_runV (As := [.int y]) (rest := []) ⟨hx, hb, hml, hown, hts⟩ (kX7_rowAt l E x rg dr rs nr c0 h td rf y  H.size) (cwV 1 hts gX7_openRow_X7_rowAt rfl rfl rfl (by decide +kernel) ⟨Nat.le_of_ble_eq_true rfl, Nat.le_of_ble_eq_true rfl⟩) ⟨CP.blind, (va_recv hev.1 (xro hR0 hap hS) (ci := 8) (q0 := 0) rfl rfl), (xpre hev hz hA hP hD hS hR0 hap [0, 1] rfl)⟩ rfl rfl hl.1 rfl (lv_room (Nat.le_of_ble_eq_true rfl)) dX7_openRow_2 ⟨Nat.le_of_ble_eq_true rfl, Nat.le_of_ble_eq_true rfl⟩) hP hD hS hA (fun r1 w2 H locs h3 hP hD hS => ?_)
  obtain ⟨rfl, rfl, h3⟩ := h3
  try dsimp only at h3
  have hP : va_P E.1 vwCl [] H := hP
  have hD : va_D A [] := hD
  rw [hrx]
  refine lv_astore_nN (lv' := [(2, .null), (0, .ref x), (1, .int y)]) hx hb dX7_openRow_5 rfl hl (by decide) rfl (fun ls hl => ?_)
  refine lv_aload_nN hx hb dX7_openRow_6 rfl (lv_at hl 0 rfl) ?_
  refine lv_ifnullN (tgt := 17) hx hb dX7_openRow_7 (by decide) ?_
  refine lv_null hx hb dX7_openRow_17 ?_
  refine lv_goto (tgt := 22) hx hb dX7_openRow_18 (by decide) ?_
  refine xrr (v := none) hx hb hr hlocks hP hD hS ⟨rfl, ?_, ?_⟩ dX7_openRow_22
  · rfl
  · trivial

abbrev pX7_openRow (E : xE) (x : Nat) (rg : Nat) (dr : Nat) (rs : Nat) (nr : Int32) (c0 : Nat) (h : Nat) (td : Nat) (rf : Nat → Option Nat) (w0 : Nat) (nu : Int32) (role : Int32) (ver : Int32) (unt : Int64) (oa : Nat) (oc : Nat) (qo : Nat) (tq : Nat) (dq : Nat) (ha : Nat) (pn : Nat) (sn : Nat) (rk : Int32) (y : Int32) (r : Option Nat) (w : va_W) : Prop := w = [] ∧ r = (if sn = 0 then some w0 else none) ∧ (True)
set_option maxHeartbeats 4000000 in
set_option maxRecDepth 100000 in
theorem kX7_openRow (l : Launch) (E : xE) (x : Nat) (rg : Nat) (dr : Nat) (rs : Nat) (nr : Int32) (c0 : Nat) (h : Nat) (td : Nat) (rf : Nat → Option Nat) (w0 : Nat) (nu : Int32) (role : Int32) (ver : Int32) (unt : Int64) (oa : Nat) (oc : Nat) (qo : Nat) (tq : Nat) (dq : Nat) (ha : Nat) (pn : Nat) (sn : Nat) (rk : Int32) (y : Int32) (hrx : rAt rf y = some w0) (hsn : sn ≤ 12) : KT l yX7_openRow wsX7_openRow 1 21 0 0 E [] [(x, .inr (8, [.ref rg, .ref dr, .ref rs, .int nr, .ref c0, .ref h, .ref td])), (rs, aR E 24 rf), (w0, .inr (5, [.int nu, .int role, .int ver, .long unt, .ref oa, .int (nI oc), .ref qo, .ref tq, .ref dq, .ref ha, .int (nI pn), .int (nI sn), .int rk]))] [.ref x, .int y] (QR E (pX7_openRow E x rg dr rs nr c0 h td rf w0 nu role ver unt oa oc qo tq dq ha pn sn rk y)) := by
  refine KT.start (cc := cX7_openRow) (maxL := 3) (ret := (some (.object "SignQuorum$Row"))) (by decide) rfl (Nat.le_of_ble_eq_true rfl) ?_
  intro p e s m below meth c A H hx hb hr hlocks hml hts hown hin hP hR0 hD hap hev hz hA hS ls hl
  have hl : lv_has ls 3 [(0, .ref x), (1, .int y)] := hl
  refine lv_aload_n hx hb dX7_openRow_0 rfl (lv_at hl 0 rfl) ?_
  refine lv_iload_n hx hb dX7_openRow_1 rfl (lv_at hl 1 rfl) ?_
  have hP := hP.sub (ws' := [] ++ []) [] rfl
  have hD := hD.sub (ws' := [] ++ []) [] (by decide) rfl
  refine xcr (va_runV (As := [.int y]) (rest := []) ⟨hx, hb, hml, hown, hts⟩ (kX7_rowAt l E x rg dr rs nr c0 h td rf y  H.size) (cwV 1 hts gX7_openRow_X7_rowAt rfl rfl rfl (by decide +kernel) ⟨Nat.le_of_ble_eq_true rfl, Nat.le_of_ble_eq_true rfl⟩) ⟨CP.blind, (va_recv hev.1 (xro hR0 hap hS) (ci := 8) (q0 := 0) rfl rfl), (xpre hev hz hA hP hD hS hR0 hap [0, 1] rfl)⟩ rfl rfl hl.1 rfl (lv_room (Nat.le_of_ble_eq_true rfl)) dX7_openRow_2 ⟨Nat.le_of_ble_eq_true rfl, Nat.le_of_ble_eq_true rfl⟩) hP hD hS hA (fun r1 w2 H locs h3 hP hD hS => ?_)
  obtain ⟨rfl, rfl, h3⟩ := h3
  try dsimp only at h3
  have hP : va_P E.1 vwCl [] H := hP
  have hD : va_D A [] := hD
  rw [hrx]
  refine lv_astore_n (lv' := [(2, .ref w0), (0, .ref x), (1, .int y)]) hx hb dX7_openRow_5 rfl hl (by decide) rfl (fun ls hl => ?_)
  refine lv_aload_n hx hb dX7_openRow_6 rfl (lv_at hl 0 rfl) ?_
  refine lv_ifnull hx hb dX7_openRow_7 ?_
  refine lv_aload_n hx hb dX7_openRow_10 rfl (lv_at hl 0 rfl) ?_
  have hP := hP.sub (ws' := [] ++ []) [] rfl
  have hD := hD.sub (ws' := [] ++ []) [] (by decide) rfl
  refine xci (va_runV (As := []) (rest := []) ⟨hx, hb, hml, hown, hts⟩ (kX4_isClosed l E w0 nu role ver unt oa oc qo tq dq ha pn sn rk (by first | assumption | omega) H.size) (cwV 0 hts gX7_openRow_X4_isClosed rfl rfl rfl (by decide +kernel) ⟨Nat.le_of_ble_eq_true rfl, Nat.le_of_ble_eq_true rfl⟩) ⟨CP.blind, (va_recv hev.1 (xro hR0 hap hS) (ci := 5) (q0 := 2) rfl rfl), (xpre hev hz hA hP hD hS hR0 hap [2] rfl)⟩ rfl rfl hl.1 rfl (lv_room (Nat.le_of_ble_eq_true rfl)) dX7_openRow_11 ⟨Nat.le_of_ble_eq_true rfl, Nat.le_of_ble_eq_true rfl⟩) hP hD hS hA (fun r4 w5 H locs h6 hP hD hS => ?_)
  obtain ⟨rfl, rfl, h6⟩ := h6
  try dsimp only at h6
  have hP : va_P E.1 vwCl [] H := hP
  have hD : va_D A [] := hD
  refine lv_if_eq (tgt := 21) hx hb dX7_openRow_14 (by decide) (fun c7 => ?_) (fun c7 => ?_)
  · skip
    have kc7 := b1_0.mp c7
    refine lv_aload_n hx hb dX7_openRow_21 rfl (lv_at hl 0 rfl) ?_
    refine xrr (v := some w0) hx hb hr hlocks hP hD hS ⟨rfl, ?_, ?_⟩ dX7_openRow_22
    · rw [if_pos (by omega)]
    · trivial
  · skip
    have kc7 := b1_n.mp c7
    refine lv_null hx hb dX7_openRow_17 ?_
    refine lv_goto (tgt := 22) hx hb dX7_openRow_18 (by decide) ?_
    refine xrr (v := none) hx hb hr hlocks hP hD hS ⟨rfl, ?_, ?_⟩ dX7_openRow_22
    · rw [if_neg (by omega)]
    · trivial
