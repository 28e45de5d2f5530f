theorem nI_ne1 {a : Nat} (h : a < 2 ^ 31) : ¬ nI a = (-1) := fun e => absurd (show nI a < 0 by rw [e]; decide) (nI_pos h)

abbrev pX8_isTold (E : xE) (mo : Nat) (ad : Nat → Nat) (th : Int32) (kn : Nat) (rn : Nat) (mn : Nat) (dp : Nat) (am : Nat → Nat → Int32) (al : Nat → Nat → Int64) (pq : Nat → Nat → Nat) (ci : Nat → Option Nat) (bw : Nat) (q : Nat) (t : Int64) (r : Int32) (w : va_W) : Prop := w = [] ∧ r = b1 (mTol ci am al pq t bw q) ∧ (True)
set_option maxHeartbeats 4000000 in
set_option maxRecDepth 100000 in
theorem kX8_isTold (l : Launch) (E : xE) (mo : Nat) (ad : Nat → Nat) (th : Int32) (kn : Nat) (rn : Nat) (mn : Nat) (dp : Nat) (am : Nat → Nat → Int32) (al : Nat → Nat → Int64) (pq : Nat → Nat → Nat) (ci : Nat → Option Nat) (bw : Nat) (q : Nat) (t : Int64) (hmk : mOk rn am pq) (hnw : ∀ j, j < 10 → am 27 j = nw ci j) (hci : ∀ j i, ci j = some i → i < rn) (hrn : rn ≤ 24) (hq : q < rn) (hbw : bw < 10) : KT l yX8_isTold wsX8_isTold 1 24 0 0 E [] [(mo, .inr (9, mOb ad th (nI kn) (nI rn) (nI mn) (nI dp))), (ad 27, aI E 10 (am 27)), (ad 14, aJ E 24 (al 14)), (ad 15, aI E 24 (am 15)), (ad 16, aI E 168 (am 16)), (ad 17, aI E 168 (am 17)), (ad 10, aI E 24 (am 10)), (ad 11, aI E 24 (am 11))] [.ref mo, .int (nI bw), .int (nI q), .long t] (QI E (pX8_isTold E mo ad th kn rn mn dp am al pq ci bw q t)) := by
  refine KT.start (cc := cX8_isTold) (maxL := 6) (ret := (some .boolean)) (by decide) rfl (Nat.le_of_ble_eq_true rfl) ?_
  intro p e s m below meth c A H hx hb hr hlocks hml hts hown hin hP hR0 hD hap hev hz hA hS ls hl
  have hl : lv_has ls 6 [(0, .ref mo), (1, .int (nI bw)), (2, .int (nI q)), (3, .long t)] := hl
  have hiX8 : ∀ w ∈ wsX80, w ∈ wsX8_isTold := fun _ h => List.mem_cons_of_mem _ (List.mem_append_right _ h)
  have hf33 := hts (.fieldLink RX8 33 "SignQuorumModel" "kind" "[I") (by decide +kernel)
  have hf36 := hts (.fieldLink RX8 36 "SignQuorumModel" "version" "[I") (by decide +kernel)
  have hf54 := hts (.fieldLink RX8 54 "SignQuorumModel" "toldVersion" "[I") (by decide +kernel)
  have hf84 := hts (.fieldLink RX8 84 "SignQuorumModel" "now" "[I") (by decide +kernel)
  obtain ⟨h10, h12, h15, h18, h22, h24, hb10, hb12, hb15, hb18, hb22, hb24⟩ := hmk q (hq)
  refine lv_aload_n hx hb dX8_isTold_0 rfl (lv_at hl 0 rfl) ?_
  refine lv_aload_n hx hb dX8_isTold_1 rfl (lv_at hl 0 rfl) ?_
  refine xgt TX8_27 (v := .ref (ad 27)) hx hb hts hiX8 hown hev.1 (xro hR0 hap hS) 0 rfl (by decide) hf84 rfl dX8_isTold_2 ?_
  refine lv_iload_n hx hb dX8_isTold_5 rfl (lv_at hl 1 rfl) ?_
  refine xiald (k := (bw)) hx hb hev.1 (xro hR0 hap hS) 1 1 rfl rfl (by omega) (by decide) dX8_isTold_6 ?_
  cases o1 : ci bw with
  | none =>
    refine xtop (y := (-1)) ((hnw _ (by omega)).trans (nw_n o1)) ?_
    refine lv_lload_n hx hb dX8_isTold_7 rfl (lv_at hl 3 rfl) ?_
    have hP := hP.sub (ws' := [] ++ []) [] rfl
    have hD := hD.sub (ws' := [] ++ []) [] (by decide) rfl
    refine xci (va_runV (As := [.int (-1), .long t]) (rest := []) ⟨hx, hb, hml, hown, hts⟩ (kX8_isAliveN l E mo ad th kn rn mn dp t  H.size) (cwV 2 hts gX8_isTold_X8_isAlive rfl rfl rfl (by decide +kernel) ⟨Nat.le_of_ble_eq_true rfl, Nat.le_of_ble_eq_true rfl⟩) ⟨CP.blind, (va_recv hev.1 (xro hR0 hap hS) (ci := 9) (q0 := 0) rfl rfl), (xpre hev hz hA hP hD hS hR0 hap [0] rfl)⟩ rfl rfl hl.1 rfl (lv_room (Nat.le_of_ble_eq_true rfl)) dX8_isTold_8 ⟨Nat.le_of_ble_eq_true rfl, Nat.le_of_ble_eq_true rfl⟩) hP hD hS hA (fun r2 w3 H locs h4 hP hD hS => ?_)
    obtain ⟨rfl, rfl, h4⟩ := h4
    try dsimp only at h4
    have hP : va_P E.1 vwCl [] H := hP
    have hD : va_D A [] := hD
    refine lv_if_ne (tgt := 16) hx hb dX8_isTold_11 (by decide) (fun c5 => absurd c5 (by decide)) (fun c5 => ?_)
    refine lv_iconst (v := 0) hx hb dX8_isTold_14 (by decide) ?_
    refine xrz hx hb hr hlocks (by first | rfl | decide | exact b1_narrow _) hP hD hS ⟨rfl, ?_, ?_⟩ dX8_isTold_15
    · exact (b1_f (fun ⟨k9, q1, _⟩ => by rw [o1] at q1; cases q1)).symm
    · trivial
  | some kk =>
    have hkkk : kk < rn := hci _ _ o1
    refine xtop (y := nI kk) ((hnw _ (by omega)).trans (nw_s o1)) ?_
    obtain ⟨h10K, h12K, h15K, h18K, h22K, h24K, hb10K, hb12K, hb15K, hb18K, hb22K, hb24K⟩ := hmk kk (hkkk)
    refine lv_lload_n hx hb dX8_isTold_7 rfl (lv_at hl 3 rfl) ?_
    have hP := hP.sub (ws' := [] ++ []) [] rfl
    have hD := hD.sub (ws' := [] ++ []) [] (by decide) rfl
    refine xci (va_runV (As := [.int (nI kk), .long t]) (rest := []) ⟨hx, hb, hml, hown, hts⟩ (kX8_isAlive l E mo ad th kn rn mn dp (al 14) kk t (by first | assumption | omega) H.size) (cwV 2 hts gX8_isTold_X8_isAlive rfl rfl rfl (by decide +kernel) ⟨Nat.le_of_ble_eq_true rfl, Nat.le_of_ble_eq_true rfl⟩) ⟨CP.blind, (va_recv hev.1 (xro hR0 hap hS) (ci := 9) (q0 := 0) rfl rfl), (xpre hev hz hA hP hD hS hR0 hap [0, 2] rfl)⟩ rfl rfl hl.1 rfl (lv_room (Nat.le_of_ble_eq_true rfl)) dX8_isTold_8 ⟨Nat.le_of_ble_eq_true rfl, Nat.le_of_ble_eq_true rfl⟩) hP hD hS hA (fun r6 w7 H locs h8 hP hD hS => ?_)
    obtain ⟨rfl, rfl, h8⟩ := h8
    try dsimp only at h8
    have hP : va_P E.1 vwCl [] H := hP
    have hD : va_D A [] := hD
    refine lv_if_ne (tgt := 16) hx hb dX8_isTold_11 (by decide) (fun c9 => ?_) (fun c9 => ?_)
    · skip
      have kc9 := b1_n.mp c9
      refine lv_aload_n hx hb dX8_isTold_16 rfl (lv_at hl 0 rfl) ?_
      refine lv_aload_n hx hb dX8_isTold_17 rfl (lv_at hl 0 rfl) ?_
      refine xgt TX8_27 (v := .ref (ad 27)) hx hb hts hiX8 hown hev.1 (xro hR0 hap hS) 0 rfl (by decide) hf84 rfl dX8_isTold_18 ?_
      refine lv_iload_n hx hb dX8_isTold_21 rfl (lv_at hl 1 rfl) ?_
      refine xiald (k := (bw)) hx hb hev.1 (xro hR0 hap hS) 1 1 rfl rfl (by omega) (by decide) dX8_isTold_22 ?_
      refine xtop (y := nI kk) ((hnw _ (by omega)).trans (nw_s o1)) ?_
      refine lv_aload_n hx hb dX8_isTold_23 rfl (lv_at hl 0 rfl) ?_
      refine xgt TX8_10 (v := .ref (ad 10)) hx hb hts hiX8 hown hev.1 (xro hR0 hap hS) 0 rfl (by decide) hf33 rfl dX8_isTold_24 ?_
      refine lv_iload_n hx hb dX8_isTold_27 rfl (lv_at hl 2 rfl) ?_
      refine xiald (k := (q)) hx hb hev.1 (xro hR0 hap hS) 6 1 rfl rfl (by omega) (by decide) dX8_isTold_28 ?_
      refine xtop (y := nI (pq q 17)) (h10) ?_
      have hP := hP.sub (ws' := [] ++ []) [] rfl
      have hD := hD.sub (ws' := [] ++ []) [] (by decide) rfl
      refine xci (va_runV (As := [.int (nI kk), .int (nI (pq q 17))]) (rest := []) ⟨hx, hb, hml, hown, hts⟩ (kX8_toldAt l E mo ad th kn rn mn dp (am 15) (am 16) kk (pq kk 15) (nI (pq q 17)) (by first | assumption | omega) (by first | assumption | omega) (by first | assumption | omega) H.size) (cwV 2 hts gX8_isTold_X8_toldAt rfl rfl rfl (by decide +kernel) ⟨Nat.le_of_ble_eq_true rfl, Nat.le_of_ble_eq_true rfl⟩) ⟨CP.blind, (va_recv hev.1 (xro hR0 hap hS) (ci := 9) (q0 := 0) rfl rfl), (xpre hev hz hA hP hD hS hR0 hap [0, 3, 4] rfl)⟩ rfl rfl hl.1 rfl (lv_room (Nat.le_of_ble_eq_true rfl)) dX8_isTold_29 ⟨Nat.le_of_ble_eq_true rfl, Nat.le_of_ble_eq_true rfl⟩) hP hD hS hA (fun r10 w11 H locs h12 hP hD hS => ?_)
      obtain ⟨rfl, rfl, h12⟩ := h12
      try dsimp only at h12
      have hP : va_P E.1 vwCl [] H := hP
      have hD : va_D A [] := hD
      cases z13 : lastAt (am 16) (7 * kk) (nI (pq q 17)) (pq kk 15) with
      | none =>
        refine xtop (y := (-1)) (by first | rfl | rw [z13]) ?_
        refine lv_istore (lv' := [(5, .int (-1)), (0, .ref mo), (1, .int (nI bw)), (2, .int (nI q)), (3, .long t)]) hx hb dX8_isTold_32 hl (by decide) rfl (fun ls hl => ?_)
        refine lv_iload hx hb dX8_isTold_34 (lv_at hl 0 rfl) ?_
        refine lv_iconst (v := (-1)) hx hb dX8_isTold_36 (by decide) ?_
        refine lv_icmp_eq (tgt := 60) hx hb dX8_isTold_37 (by decide) (fun c14 => ?_) (fun c14 => absurd (by decide) c14)
        refine lv_iconst (v := 0) hx hb dX8_isTold_60 (by decide) ?_
        refine xrz hx hb hr hlocks (by first | rfl | decide | exact b1_narrow _) hP hD hS ⟨rfl, ?_, ?_⟩ dX8_isTold_61
        · exact (b1_f (fun ⟨k9, q1, _, j9, q3, _⟩ => by rw [o1] at q1; cases q1; rw [z13] at q3; cases q3)).symm
        · trivial
      | some jj =>
        refine xtop (y := nI (7 * kk + jj)) (by first | rfl | rw [z13]) ?_
        have hjjj := lastAt_lt z13
        refine lv_istore (lv' := [(5, .int (nI (7 * kk + jj))), (0, .ref mo), (1, .int (nI bw)), (2, .int (nI q)), (3, .long t)]) hx hb dX8_isTold_32 hl (by decide) rfl (fun ls hl => ?_)
        refine lv_iload hx hb dX8_isTold_34 (lv_at hl 0 rfl) ?_
        refine lv_iconst (v := (-1)) hx hb dX8_isTold_36 (by decide) ?_
        refine lv_icmp_eq (tgt := 60) hx hb dX8_isTold_37 (by decide) (fun c15 => absurd c15 (nI_ne1 (by omega))) (fun c15 => ?_)
        refine lv_aload_n hx hb dX8_isTold_40 rfl (lv_at hl 1 rfl) ?_
        refine xgt TX8_17 (v := .ref (ad 17)) hx hb hts hiX8 hown hev.1 (xro hR0 hap hS) 0 rfl (by decide) hf54 rfl dX8_isTold_41 ?_
        refine lv_iload hx hb dX8_isTold_44 (lv_at hl 0 rfl) ?_
        refine xiald (k := (7 * kk + jj)) hx hb hev.1 (xro hR0 hap hS) 5 1 rfl rfl (by omega) (by decide) dX8_isTold_46 ?_
        refine lv_aload_n hx hb dX8_isTold_47 rfl (lv_at hl 1 rfl) ?_
        refine xgt TX8_11 (v := .ref (ad 11)) hx hb hts hiX8 hown hev.1 (xro hR0 hap hS) 0 rfl (by decide) hf36 rfl dX8_isTold_48 ?_
        refine lv_iload_n hx hb dX8_isTold_51 rfl (lv_at hl 3 rfl) ?_
        refine xiald (k := (q)) hx hb hev.1 (xro hR0 hap hS) 7 1 rfl rfl (by omega) (by decide) dX8_isTold_52 ?_
        refine lv_icmp_ne (tgt := 60) hx hb dX8_isTold_53 (by decide) (fun c16 => ?_) (fun c16 => ?_)
        · skip
          refine lv_iconst (v := 0) hx hb dX8_isTold_60 (by decide) ?_
          refine xrz hx hb hr hlocks (by first | rfl | decide | exact b1_narrow _) hP hD hS ⟨rfl, ?_, ?_⟩ dX8_isTold_61
          · exact (b1_f (fun ⟨k9, q1, _, j9, q3, q4⟩ => by rw [o1] at q1; cases q1; rw [z13] at q3; cases q3; exact c16 q4)).symm
          · trivial
        · skip
          refine lv_iconst (v := 1) hx hb dX8_isTold_56 (by decide) ?_
          refine lv_goto (tgt := 61) hx hb dX8_isTold_57 (by decide) ?_
          refine xrz hx hb hr hlocks (by first | rfl | decide | exact b1_narrow _) hP hD hS ⟨rfl, ?_, ?_⟩ dX8_isTold_61
          · exact (b1_t ⟨kk, o1, kc9, jj, z13, c16⟩).symm
          · trivial
    · skip
      have kc9 := b1_0.mp c9
      refine lv_iconst (v := 0) hx hb dX8_isTold_14 (by decide) ?_
      refine xrz hx hb hr hlocks (by first | rfl | decide | exact b1_narrow _) hP hD hS ⟨rfl, ?_, ?_⟩ dX8_isTold_15
      · exact (b1_f (fun ⟨k9, q1, q2, _⟩ => by rw [o1] at q1; cases q1; exact kc9 q2)).symm
      · trivial

abbrev pX8_goesOn (E : xE) (mo : Nat) (ad : Nat → Nat) (th : Int32) (kn : Nat) (rn : Nat) (mn : Nat) (dp : Nat) (am : Nat → Nat → Int32) (al : Nat → Nat → Int64) (pq : Nat → Nat → Nat) (k : Nat) (q : Nat) (r : Int32) (w : va_W) : Prop := w = [] ∧ r = b1 (mGo am pq k q (pq k 15)) ∧ (True)
set_option maxHeartbeats 4000000 in
set_option maxRecDepth 100000 in
theorem kX8_goesOn (l : Launch) (E : xE) (mo : Nat) (ad : Nat → Nat) (th : Int32) (kn : Nat) (rn : Nat) (mn : Nat) (dp : Nat) (am : Nat → Nat → Int32) (al : Nat → Nat → Int64) (pq : Nat → Nat → Nat) (k : Nat) (q : Nat) (hmk : mOk rn am pq) (hrn : rn ≤ 24) (hk : k < rn) (hq : q < rn) : KT l yX8_goesOn wsX8_goesOn 1 24 0 0 E [] [(mo, .inr (9, mOb ad th (nI kn) (nI rn) (nI mn) (nI dp))), (ad 15, aI E 24 (am 15)), (ad 16, aI E 168 (am 16)), (ad 17, aI E 168 (am 17))] [.ref mo, .int (nI k), .int (nI q)] (QI E (pX8_goesOn E mo ad th kn rn mn dp am al pq k q)) := by
  refine KT.start (cc := cX8_goesOn) (maxL := 6) (ret := (some .boolean)) (by decide) rfl (Nat.le_of_ble_eq_true rfl) ?_
  intro p e s m below meth c A H hx hb hr hlocks hml hts hown hin hP hR0 hD hap hev hz hA hS ls hl
  have hl : lv_has ls 6 [(0, .ref mo), (1, .int (nI k)), (2, .int (nI q))] := hl
  have hiX8 : ∀ w ∈ wsX80, w ∈ wsX8_goesOn := fun _ h => List.mem_cons_of_mem _ (List.mem_append_right _ h)
  have hf48 := hts (.fieldLink RX8 48 "SignQuorumModel" "told" "[I") (by decide +kernel)
  have hf51 := hts (.fieldLink RX8 51 "SignQuorumModel" "toldRole" "[I") (by decide +kernel)
  have hf54 := hts (.fieldLink RX8 54 "SignQuorumModel" "toldVersion" "[I") (by decide +kernel)
  obtain ⟨h10, h12, h15, h18, h22, h24, hb10, hb12, hb15, hb18, hb22, hb24⟩ := hmk q (hq)
  obtain ⟨h10K, h12K, h15K, h18K, h22K, h24K, hb10K, hb12K, hb15K, hb18K, hb22K, hb24K⟩ := hmk k (hk)
  refine lv_iconst (v := 1) hx hb dX8_goesOn_0 (by decide) ?_
  refine xtop (y := b1 (mGo am pq k q 0)) ((b1_t (fun i h9 => absurd h9 (by omega))).symm) ?_
  refine lv_istore_n (lv' := [(3, .int (b1 (mGo am pq k q 0))), (0, .ref mo), (1, .int (nI k)), (2, .int (nI q))]) hx hb dX8_goesOn_1 rfl hl (by decide) rfl (fun ls hl => ?_)
  refine lv_bipush (v := 7) hx hb dX8_goesOn_2 (by decide) ?_
  refine lv_iload_n hx hb dX8_goesOn_4 rfl (lv_at hl 2 rfl) ?_
  refine lv_imul hx hb dX8_goesOn_5 ?_
  refine xtop (y := nI (7 * k)) (pk_mul _ _) ?_
  refine lv_istore (lv' := [(4, .int (nI (7 * k))), (3, .int (b1 (mGo am pq k q 0))), (0, .ref mo), (1, .int (nI k)), (2, .int (nI q))]) hx hb dX8_goesOn_6 hl (by decide) rfl (fun ls hl => ?_)
  have loop8 : ∀ (fz8 : Nat) (i : Nat), (i ≤ pq k 15) → (pq k 15 - i < fz8) → ∀ (H : Heap) (locs : List Loc), va_P E.1 vwCl [] H → va_D A [] → va_S A s.heap H locs → ∀ ls : Array Slot, lv_has ls 6 [(4, .int (nI (7 * k + i))), (3, .int (b1 (mGo am pq k q i))), (0, .ref mo), (1, .int (nI k)), (2, .int (nI q))] → W p l e ({ frames := 1, cells := 0, slots := 0, locals := 24 } : Room) s m ([.ref mo, .int (nI k), .int (nI q)] : List Value).toArray below meth c H locs 0 0 (MQ below (QI E (pX8_goesOn E mo ad th kn rn mn dp am al pq k q) A) ([.ref mo, .int (nI k), .int (nI q)] : List Value).toArray s 0 0 A) (F0 m 8 ls []) := by
    intro fz8
    induction fz8 with
    | zero =>
      intro i hi hfuel
      exact absurd hfuel (by omega)
    | succ fz8 ih8 =>
      intro i hi hfuel H locs hP hD hS ls hl
      refine lv_iload hx hb dX8_goesOn_8 (lv_at hl 0 rfl) ?_
      refine lv_bipush (v := 7) hx hb dX8_goesOn_10 (by decide) ?_
      refine lv_iload_n hx hb dX8_goesOn_12 rfl (lv_at hl 3 rfl) ?_
      refine lv_imul hx hb dX8_goesOn_13 ?_
      refine xtop (y := nI (7 * k)) (pk_mul _ _) ?_
      refine lv_aload_n hx hb dX8_goesOn_14 rfl (lv_at hl 2 rfl) ?_
      refine xgt TX8_15 (v := .ref (ad 15)) hx hb hts hiX8 hown hev.1 (xro hR0 hap hS) 0 rfl (by decide) hf48 rfl dX8_goesOn_15 ?_
      refine lv_iload_n hx hb dX8_goesOn_18 rfl (lv_at hl 3 rfl) ?_
      refine xiald (k := (k)) hx hb hev.1 (xro hR0 hap hS) 1 1 rfl rfl (by omega) (by decide) dX8_goesOn_19 ?_
      refine xtop (y := nI (pq k 15)) (h15K) ?_
      refine lv_iadd hx hb dX8_goesOn_20 ?_
      refine xtop (y := nI (7 * k + (pq k 15))) ((nI_add (7 * k) (pq k 15)).trans (congrArg nI (by omega))) ?_
      refine lv_icmp_ge (tgt := 77) hx hb dX8_goesOn_21 (by decide) (fun c1 => ?_) (fun c1 => ?_)
      · skip
        have kc1 : (7 * k + (pq k 15)) ≤ (7 * k + i) := (nI_leI (a := (7 * k + (pq k 15))) (b := (7 * k + i)) (by omega) (by omega)).mp c1
        have hin9 : i = pq k 15 := by omega
        rw [hin9] at hl
        have hl : lv_has ls 6 [(4, .int (nI (7 * k + pq k 15))), (3, .int (b1 (mGo am pq k q (pq k 15)))), (0, .ref mo), (1, .int (nI k)), (2, .int (nI q))] := hl
        refine lv_iload_n hx hb dX8_goesOn_77 rfl (lv_at hl 1 rfl) ?_
        refine xrz hx hb hr hlocks (by first | rfl | decide | exact b1_narrow _) hP hD hS ⟨rfl, ?_, ?_⟩ dX8_goesOn_78
        · rfl
        · trivial
      · skip
        have kc1 : ¬ (7 * k + (pq k 15)) ≤ (7 * k + i) := fun h9 => c1 ((nI_leI (a := (7 * k + (pq k 15))) (b := (7 * k + i)) (by omega) (by omega)).mpr h9)
        refine lv_aload_n hx hb dX8_goesOn_24 rfl (lv_at hl 2 rfl) ?_
        refine lv_iload_n hx hb dX8_goesOn_25 rfl (lv_at hl 4 rfl) ?_
        refine lv_aload_n hx hb dX8_goesOn_26 rfl (lv_at hl 2 rfl) ?_
        refine xgt TX8_16 (v := .ref (ad 16)) hx hb hts hiX8 hown hev.1 (xro hR0 hap hS) 0 rfl (by decide) hf51 rfl dX8_goesOn_27 ?_
        refine lv_iload hx hb dX8_goesOn_30 (lv_at hl 0 rfl) ?_
        refine xiald (k := (7 * k + i)) hx hb hev.1 (xro hR0 hap hS) 2 1 rfl rfl (by omega) (by decide) dX8_goesOn_32 ?_
        have hP := hP.sub (ws' := [] ++ []) [] rfl
        have hD := hD.sub (ws' := [] ++ []) [] (by decide) rfl
        refine xci (va_runV (As := [.int (nI q), .int ((am 16) (7 * k + i))]) (rest := []) ⟨hx, hb, hml, hown, hts⟩ (kX8_toldAt l E mo ad th kn rn mn dp (am 15) (am 16) q (pq q 15) ((am 16) (7 * k + i)) (by first | assumption | omega) (by first | assumption | omega) (by first | assumption | omega) H.size) (cwV 2 hts gX8_goesOn_X8_toldAt rfl rfl rfl (by decide +kernel) ⟨Nat.le_of_ble_eq_true rfl, Nat.le_of_ble_eq_true rfl⟩) ⟨CP.blind, (va_recv hev.1 (xro hR0 hap hS) (ci := 9) (q0 := 0) rfl rfl), (xpre hev hz hA hP hD hS hR0 hap [0, 1, 2] rfl)⟩ rfl rfl hl.1 rfl (lv_room (Nat.le_of_ble_eq_true rfl)) dX8_goesOn_33 ⟨Nat.le_of_ble_eq_true rfl, Nat.le_of_ble_eq_true rfl⟩) hP hD hS hA (fun r2 w3 H locs h4 hP hD hS => ?_)
        obtain ⟨rfl, rfl, h4⟩ := h4
        try dsimp only at h4
        have hP : va_P E.1 vwCl [] H := hP
        have hD : va_D A [] := hD
        cases z5 : lastAt (am 16) (7 * q) (am 16 (7 * k + i)) (pq q 15) with
        | none =>
          refine xtop (y := (-1)) (by first | rfl | rw [z5]) ?_
          refine lv_istore (lv' := [(5, .int (-1)), (4, .int (nI (7 * k + i))), (3, .int (b1 (mGo am pq k q i))), (0, .ref mo), (1, .int (nI k)), (2, .int (nI q))]) hx hb dX8_goesOn_36 hl (by decide) rfl (fun ls hl => ?_)
          refine lv_iload_n hx hb dX8_goesOn_38 rfl (lv_at hl 2 rfl) ?_
          refine lv_if_eq (tgt := 69) hx hb dX8_goesOn_39 (by decide) (fun c6 => ?_) (fun c6 => ?_)
          · skip
            have kc6 := b1_0.mp c6
            refine lv_iconst (v := 0) hx hb dX8_goesOn_69 (by decide) ?_
            refine xtop (y := b1 (mGo am pq k q (i + 1))) ((b1_f (mGo_f kc6)).symm) ?_
            refine lv_istore_n (lv' := [(3, .int (b1 (mGo am pq k q (i + 1)))), (5, .int (-1)), (4, .int (nI (7 * k + i))), (0, .ref mo), (1, .int (nI k)), (2, .int (nI q))]) hx hb dX8_goesOn_70 rfl hl (by decide) rfl (fun ls hl => ?_)
            refine lv_iinc (v := nI (7 * k + i + 1)) (lv' := [(4, .int (nI (7 * k + i + 1))), (3, .int (b1 (mGo am pq k q (i + 1)))), (5, .int (-1)), (0, .ref mo), (1, .int (nI k)), (2, .int (nI q))]) hx hb dX8_goesOn_71 hl (k := 2) rfl ((nI_add (7 * k + i) 1).trans (congrArg nI (by omega))) (by decide) rfl (fun ls hl => ?_)
            refine lv_goto (tgt := 8) hx hb dX8_goesOn_74 (by decide) ?_
            rw [show (7 * k + i + 1 : Nat) = 7 * k + (i + 1) by omega] at hl
            have hl : lv_has ls 6 [(4, .int (nI (7 * k + (i + 1)))), (3, .int (b1 (mGo am pq k q (i + 1)))), (5, .int (-1)), (0, .ref mo), (1, .int (nI k)), (2, .int (nI q))] := hl
            exact ih8  (i + 1) (by omega) (by omega) _ _ hP hD hS ls (lv_sub hl [0, 1, 3, 4, 5] rfl)
          · skip
            have kc6 := b1_n.mp c6
            refine lv_iload hx hb dX8_goesOn_42 (lv_at hl 0 rfl) ?_
            refine lv_iconst (v := (-1)) hx hb dX8_goesOn_44 (by decide) ?_
            refine lv_icmp_eq (tgt := 69) hx hb dX8_goesOn_45 (by decide) (fun c7 => ?_) (fun c7 => absurd (by decide) c7)
            refine lv_iconst (v := 0) hx hb dX8_goesOn_69 (by decide) ?_
            refine xtop (y := b1 (mGo am pq k q (i + 1))) ((b1_f (mGo_g (fun ⟨j9, q1, _⟩ => by rw [z5] at q1; cases q1))).symm) ?_
            refine lv_istore_n (lv' := [(3, .int (b1 (mGo am pq k q (i + 1)))), (5, .int (-1)), (4, .int (nI (7 * k + i))), (0, .ref mo), (1, .int (nI k)), (2, .int (nI q))]) hx hb dX8_goesOn_70 rfl hl (by decide) rfl (fun ls hl => ?_)
            refine lv_iinc (v := nI (7 * k + i + 1)) (lv' := [(4, .int (nI (7 * k + i + 1))), (3, .int (b1 (mGo am pq k q (i + 1)))), (5, .int (-1)), (0, .ref mo), (1, .int (nI k)), (2, .int (nI q))]) hx hb dX8_goesOn_71 hl (k := 2) rfl ((nI_add (7 * k + i) 1).trans (congrArg nI (by omega))) (by decide) rfl (fun ls hl => ?_)
            refine lv_goto (tgt := 8) hx hb dX8_goesOn_74 (by decide) ?_
            rw [show (7 * k + i + 1 : Nat) = 7 * k + (i + 1) by omega] at hl
            have hl : lv_has ls 6 [(4, .int (nI (7 * k + (i + 1)))), (3, .int (b1 (mGo am pq k q (i + 1)))), (5, .int (-1)), (0, .ref mo), (1, .int (nI k)), (2, .int (nI q))] := hl
            exact ih8  (i + 1) (by omega) (by omega) _ _ hP hD hS ls (lv_sub hl [0, 1, 3, 4, 5] rfl)
        | some jj =>
          refine xtop (y := nI (7 * q + jj)) (by first | rfl | rw [z5]) ?_
          have hjjj := lastAt_lt z5
          refine lv_istore (lv' := [(5, .int (nI (7 * q + jj))), (4, .int (nI (7 * k + i))), (3, .int (b1 (mGo am pq k q i))), (0, .ref mo), (1, .int (nI k)), (2, .int (nI q))]) hx hb dX8_goesOn_36 hl (by decide) rfl (fun ls hl => ?_)
          refine lv_iload_n hx hb dX8_goesOn_38 rfl (lv_at hl 2 rfl) ?_
          refine lv_if_eq (tgt := 69) hx hb dX8_goesOn_39 (by decide) (fun c8 => ?_) (fun c8 => ?_)
          · skip
            have kc8 := b1_0.mp c8
            refine lv_iconst (v := 0) hx hb dX8_goesOn_69 (by decide) ?_
            refine xtop (y := b1 (mGo am pq k q (i + 1))) ((b1_f (mGo_f kc8)).symm) ?_
            refine lv_istore_n (lv' := [(3, .int (b1 (mGo am pq k q (i + 1)))), (5, .int (nI (7 * q + jj))), (4, .int (nI (7 * k + i))), (0, .ref mo), (1, .int (nI k)), (2, .int (nI q))]) hx hb dX8_goesOn_70 rfl hl (by decide) rfl (fun ls hl => ?_)
            refine lv_iinc (v := nI (7 * k + i + 1)) (lv' := [(4, .int (nI (7 * k + i + 1))), (3, .int (b1 (mGo am pq k q (i + 1)))), (5, .int (nI (7 * q + jj))), (0, .ref mo), (1, .int (nI k)), (2, .int (nI q))]) hx hb dX8_goesOn_71 hl (k := 2) rfl ((nI_add (7 * k + i) 1).trans (congrArg nI (by omega))) (by decide) rfl (fun ls hl => ?_)
            refine lv_goto (tgt := 8) hx hb dX8_goesOn_74 (by decide) ?_
            rw [show (7 * k + i + 1 : Nat) = 7 * k + (i + 1) by omega] at hl
            have hl : lv_has ls 6 [(4, .int (nI (7 * k + (i + 1)))), (3, .int (b1 (mGo am pq k q (i + 1)))), (5, .int (nI (7 * q + jj))), (0, .ref mo), (1, .int (nI k)), (2, .int (nI q))] := hl
            exact ih8  (i + 1) (by omega) (by omega) _ _ hP hD hS ls (lv_sub hl [0, 1, 3, 4, 5] rfl)
          · skip
            have kc8 := b1_n.mp c8
            refine lv_iload hx hb dX8_goesOn_42 (lv_at hl 0 rfl) ?_
            refine lv_iconst (v := (-1)) hx hb dX8_goesOn_44 (by decide) ?_
            refine lv_icmp_eq (tgt := 69) hx hb dX8_goesOn_45 (by decide) (fun c9 => absurd c9 (nI_ne1 (by omega))) (fun c9 => ?_)
            refine lv_aload_n hx hb dX8_goesOn_48 rfl (lv_at hl 3 rfl) ?_
            refine xgt TX8_17 (v := .ref (ad 17)) hx hb hts hiX8 hown hev.1 (xro hR0 hap hS) 0 rfl (by decide) hf54 rfl dX8_goesOn_49 ?_
            refine lv_iload hx hb dX8_goesOn_52 (lv_at hl 0 rfl) ?_
            refine xiald (k := (7 * q + jj)) hx hb hev.1 (xro hR0 hap hS) 3 1 rfl rfl (by omega) (by decide) dX8_goesOn_54 ?_
            refine lv_aload_n hx hb dX8_goesOn_55 rfl (lv_at hl 3 rfl) ?_
            refine xgt TX8_17 (v := .ref (ad 17)) hx hb hts hiX8 hown hev.1 (xro hR0 hap hS) 0 rfl (by decide) hf54 rfl dX8_goesOn_56 ?_
            refine lv_iload hx hb dX8_goesOn_59 (lv_at hl 1 rfl) ?_
            refine xiald (k := (7 * k + i)) hx hb hev.1 (xro hR0 hap hS) 3 1 rfl rfl (by omega) (by decide) dX8_goesOn_61 ?_
            refine lv_icmp_lt (tgt := 69) hx hb dX8_goesOn_62 (by decide) (fun c10 => ?_) (fun c10 => ?_)
            · skip
              refine lv_iconst (v := 0) hx hb dX8_goesOn_69 (by decide) ?_
              refine xtop (y := b1 (mGo am pq k q (i + 1))) ((b1_f (mGo_g (fun ⟨j9, q1, q2⟩ => by rw [z5] at q1; cases q1; exact q2 c10))).symm) ?_
              refine lv_istore_n (lv' := [(3, .int (b1 (mGo am pq k q (i + 1)))), (5, .int (nI (7 * q + jj))), (4, .int (nI (7 * k + i))), (0, .ref mo), (1, .int (nI k)), (2, .int (nI q))]) hx hb dX8_goesOn_70 rfl hl (by decide) rfl (fun ls hl => ?_)
              refine lv_iinc (v := nI (7 * k + i + 1)) (lv' := [(4, .int (nI (7 * k + i + 1))), (3, .int (b1 (mGo am pq k q (i + 1)))), (5, .int (nI (7 * q + jj))), (0, .ref mo), (1, .int (nI k)), (2, .int (nI q))]) hx hb dX8_goesOn_71 hl (k := 2) rfl ((nI_add (7 * k + i) 1).trans (congrArg nI (by omega))) (by decide) rfl (fun ls hl => ?_)
              refine lv_goto (tgt := 8) hx hb dX8_goesOn_74 (by decide) ?_
              rw [show (7 * k + i + 1 : Nat) = 7 * k + (i + 1) by omega] at hl
              have hl : lv_has ls 6 [(4, .int (nI (7 * k + (i + 1)))), (3, .int (b1 (mGo am pq k q (i + 1)))), (5, .int (nI (7 * q + jj))), (0, .ref mo), (1, .int (nI k)), (2, .int (nI q))] := hl
              exact ih8  (i + 1) (by omega) (by omega) _ _ hP hD hS ls (lv_sub hl [0, 1, 3, 4, 5] rfl)
            · skip
              refine lv_iconst (v := 1) hx hb dX8_goesOn_65 (by decide) ?_
              refine lv_goto (tgt := 70) hx hb dX8_goesOn_66 (by decide) ?_
              refine xtop (y := b1 (mGo am pq k q (i + 1))) ((b1_t (mGo_t kc8 ⟨jj, z5, c10⟩)).symm) ?_
              refine lv_istore_n (lv' := [(3, .int (b1 (mGo am pq k q (i + 1)))), (5, .int (nI (7 * q + jj))), (4, .int (nI (7 * k + i))), (0, .ref mo), (1, .int (nI k)), (2, .int (nI q))]) hx hb dX8_goesOn_70 rfl hl (by decide) rfl (fun ls hl => ?_)
              refine lv_iinc (v := nI (7 * k + i + 1)) (lv' := [(4, .int (nI (7 * k + i + 1))), (3, .int (b1 (mGo am pq k q (i + 1)))), (5, .int (nI (7 * q + jj))), (0, .ref mo), (1, .int (nI k)), (2, .int (nI q))]) hx hb dX8_goesOn_71 hl (k := 2) rfl ((nI_add (7 * k + i) 1).trans (congrArg nI (by omega))) (by decide) rfl (fun ls hl => ?_)
              refine lv_goto (tgt := 8) hx hb dX8_goesOn_74 (by decide) ?_
              rw [show (7 * k + i + 1 : Nat) = 7 * k + (i + 1) by omega] at hl
              have hl : lv_has ls 6 [(4, .int (nI (7 * k + (i + 1)))), (3, .int (b1 (mGo am pq k q (i + 1)))), (5, .int (nI (7 * q + jj))), (0, .ref mo), (1, .int (nI k)), (2, .int (nI q))] := hl
              exact ih8  (i + 1) (by omega) (by omega) _ _ hP hD hS ls (lv_sub hl [0, 1, 3, 4, 5] rfl)
  exact loop8 (pq k 15 + 1) 0 (by omega) (by omega) _ _ hP hD hS ls (lv_sub hl [0, 1, 2, 3, 4] rfl)
