abbrev pX8_rule (E : xE) (mo : Nat) (ad : Nat → Nat) (th : Int32) (kn : Nat) (rn : Nat) (mn : Nat) (dp : Nat) (am : Nat → Nat → Int32) (al : Nat → Nat → Int64) (pq : Nat → Nat → Nat) (ci : Nat → Option Nat) (a29 : Nat → Int32) (a30 : Nat → Int32) (a34 : Nat → Int32) (a35 : Nat → Int32) (a36 : Nat → Int32) (q : Nat) (t : Int64) (r : Int32) (w : va_W) : Prop := ∃ (m2 : Nat) (g29 : Nat → Int32) (g30 : Nat → Int32) (g34 : Nat → Int32) (g35 : Nat → Int32) (g36 : Nat → Int32), w = [(mo, .inr (9, mOb ad th (nI kn) (nI rn) (nI m2) (nI dp))), (ad 29, aI E 256 g29), (ad 30, aI E 32 g30), (ad 34, aI E 16 g34), (ad 35, aI E 8 g35), (ad 36, aI E 8 g36)] ∧ r = nI (mrl kn ci am al pq t q) ∧ (True)
set_option maxHeartbeats 8000000 in
set_option maxRecDepth 100000 in
theorem kX8_rule (l : Launch) (E : xE) (mo : Nat) (ad : Nat → Nat) (th : Int32) (kn : Nat) (rn : Nat) (mn : Nat) (dp : Nat) (am : Nat → Nat → Int32) (al : Nat → Nat → Int64) (pq : Nat → Nat → Nat) (ci : Nat → Option Nat) (a29 : Nat → Int32) (a30 : Nat → Int32) (a34 : Nat → Int32) (a35 : Nat → Int32) (a36 : Nat → Int32) (q : Nat) (t : Int64) (hmk : mOk rn am pq) (hnw : ∀ j, j < 10 → am 27 j = nw ci j) (hci : ∀ j i, ci j = some i → i < rn) (hrn : rn ≤ 24) (hq : q < rn) (hkn : kn ≤ 20) (hfs : ∀ k, k < 8 → am 32 k = sFS k) (hst : ∀ k, k < 64 → am 33 k = sRC k) : KT l yX8_rule wsX8_rule 8 195 0 0 E [(mo, .inr (9, mOb ad th (nI kn) (nI rn) (nI mn) (nI dp))), (ad 29, aI E 256 a29), (ad 30, aI E 32 a30), (ad 34, aI E 16 a34), (ad 35, aI E 8 a35), (ad 36, aI E 8 a36)] [(ad 3, aJ E 20 (al 3)), (ad 14, aJ E 24 (al 14)), (ad 32, aI E 8 (am 32)), (ad 33, aI E 64 (am 33)), (ad 8, aI E 240 (am 8)), (ad 9, aI E 240 (am 9)), (ad 10, aI E 24 (am 10)), (ad 11, aI E 24 (am 11)), (ad 12, aI E 24 (am 12)), (ad 13, aI E 384 (am 13)), (ad 15, aI E 24 (am 15)), (ad 16, aI E 168 (am 16)), (ad 17, aI E 168 (am 17)), (ad 18, aI E 24 (am 18)), (ad 19, aI E 144 (am 19)), (ad 20, aI E 144 (am 20)), (ad 21, aZ E 144 (am 21)), (ad 22, aI E 24 (am 22)), (ad 23, aI E 144 (am 23)), (ad 24, aI E 24 (am 24)), (ad 25, aI E 288 (am 25)), (ad 26, aJ E 288 (al 26)), (ad 4, aJ E 20 (al 4)), (ad 5, aZ E 20 (am 5)), (ad 27, aI E 10 (am 27))] [.ref mo, .int (nI q), .long t] (QI E (pX8_rule E mo ad th kn rn mn dp am al pq ci a29 a30 a34 a35 a36 q t)) := by
  refine KT.start (cc := cX8_rule) (maxL := 7) (ret := (some .int)) (by decide) rfl (Nat.le_of_ble_eq_true rfl) ?_
  intro p e s m below meth c A H hx hb hr hlocks hml hts hown hin hP hR0 hD hap hev hz hA hS ls hl
  have hl : lv_has ls 7 [(0, .ref mo), (1, .int (nI q)), (2, .long t)] := hl
  have hiX8 : ∀ w ∈ wsX80, w ∈ wsX8_rule := fun _ h => List.mem_cons_of_mem _ (List.mem_append_right _ h)
  have hf33 := hts (.fieldLink RX8 33 "SignQuorumModel" "kind" "[I") (by decide +kernel)
  have hf36 := hts (.fieldLink RX8 36 "SignQuorumModel" "version" "[I") (by decide +kernel)
  have hf84 := hts (.fieldLink RX8 84 "SignQuorumModel" "now" "[I") (by decide +kernel)
  obtain ⟨h10, h12, h15, h18, h22, h24, hb10, hb12, hb15, hb18, hb22, hb24⟩ := hmk q (hq)
  refine lv_aload_n hx hb dX8_rule_0 rfl (lv_at hl 0 rfl) ?_
  refine lv_iload_n hx hb dX8_rule_1 rfl (lv_at hl 1 rfl) ?_
  have hP := hP.sub (ws' := [] ++ [(mo, .inr (9, mOb ad th (nI kn) (nI rn) (nI mn) (nI dp))), (ad 29, aI E 256 a29), (ad 30, aI E 32 a30), (ad 34, aI E 16 a34), (ad 35, aI E 8 a35), (ad 36, aI E 8 a36)]) [0, 1, 2, 3, 4, 5] rfl
  have hD := hD.sub (ws' := [] ++ [(mo, .inr (9, mOb ad th (nI kn) (nI rn) (nI mn) (nI dp))), (ad 29, aI E 256 a29), (ad 30, aI E 32 a30), (ad 34, aI E 16 a34), (ad 35, aI E 8 a35), (ad 36, aI E 8 a36)]) [0, 1, 2, 3, 4, 5] (by decide) rfl
  refine xci (va_runV (As := [.int (nI q)]) (rest := []) ⟨hx, hb, hml, hown, hts⟩ (kX8_isRow l E mo ad th kn rn mn dp (nI q) (by first | assumption | omega) H.size) (cwV 1 hts gX8_rule_X8_isRow rfl rfl rfl (by decide +kernel) ⟨Nat.le_of_ble_eq_true rfl, Nat.le_of_ble_eq_true rfl⟩) ⟨CP.blind, (va_recv hev.1 hP (ci := 9) (q0 := 0) rfl rfl), (xpre hev hz hA hP hD hS hR0 hap [0] rfl)⟩ rfl rfl hl.1 rfl (lv_room (Nat.le_of_ble_eq_true rfl)) dX8_rule_2 ⟨Nat.le_of_ble_eq_true rfl, Nat.le_of_ble_eq_true rfl⟩) hP hD hS hA (fun r1 w2 H locs h3 hP hD hS => ?_)
  obtain ⟨rfl, rfl, h3⟩ := h3
  try dsimp only at h3
  have hP : va_P E.1 vwCl [(mo, .inr (9, mOb ad th (nI kn) (nI rn) (nI mn) (nI dp))), (ad 29, aI E 256 a29), (ad 30, aI E 32 a30), (ad 34, aI E 16 a34), (ad 35, aI E 8 a35), (ad 36, aI E 8 a36)] H := hP
  have hD : va_D A [(mo, .inr (9, mOb ad th (nI kn) (nI rn) (nI mn) (nI dp))), (ad 29, aI E 256 a29), (ad 30, aI E 32 a30), (ad 34, aI E 16 a34), (ad 35, aI E 8 a35), (ad 36, aI E 8 a36)] := hD
  refine lv_if_ne (tgt := 10) hx hb dX8_rule_5 (by decide) (fun c4 => ?_) (fun c4 => absurd c4 (b1_n.mpr (⟨q, hq, rfl⟩)))
  refine lv_aload_n hx hb dX8_rule_10 rfl (lv_at hl 0 rfl) ?_
  refine xgt TX8_10 (v := .ref (ad 10)) hx hb hts hiX8 hown hev.1 hP 0 rfl (by decide) hf33 rfl dX8_rule_11 ?_
  refine lv_iload_n hx hb dX8_rule_14 rfl (lv_at hl 1 rfl) ?_
  refine xiald (k := (q)) hx hb hev.1 (xro hR0 hap hS) 6 1 rfl rfl (by omega) (by decide) dX8_rule_15 ?_
  refine xtop (y := nI (pq q 17)) (h10) ?_
  refine lv_istore (lv' := [(4, .int (nI (pq q 17))), (0, .ref mo), (1, .int (nI q)), (2, .long t)]) hx hb dX8_rule_16 hl (by decide) rfl (fun ls hl => ?_)
  refine lv_aload_n hx hb dX8_rule_18 rfl (lv_at hl 1 rfl) ?_
  refine xgt TX8_27 (v := .ref (ad 27)) hx hb hts hiX8 hown hev.1 hP 0 rfl (by decide) hf84 rfl dX8_rule_19 ?_
  refine lv_iconst (v := 0) hx hb dX8_rule_22 (by decide) ?_
  refine xiald (k := 0) hx hb hev.1 (xro hR0 hap hS) 24 1 rfl rfl (by omega) (by decide) dX8_rule_23 ?_
  cases o5 : ci 0 with
  | none =>
    refine xtop (y := (-1)) ((hnw _ (by omega)).trans (nw_n o5)) ?_
    refine lv_istore (lv' := [(5, .int (-1)), (4, .int (nI (pq q 17))), (0, .ref mo), (1, .int (nI q)), (2, .long t)]) hx hb dX8_rule_24 hl (by decide) rfl (fun ls hl => ?_)
    refine lv_iload hx hb dX8_rule_26 (lv_at hl 1 rfl) ?_
    refine lv_if_eq (tgt := 43) hx hb dX8_rule_28 (by decide) (fun c6 => ?_) (fun c6 => ?_)
    · skip
      have kc6 : (pq q 17) = 0 := (nI_eq (a := (pq q 17)) (b := 0) (by omega) (by omega)).mp c6
      have r2 : ¬ (¬ pq q 17 = 0 ∧ ¬ mAlv ci al t) := fun z => z.1 kc6
      refine lv_iload hx hb dX8_rule_43 (lv_at hl 0 rfl) ?_
      refine lv_iconst (v := (-1)) hx hb dX8_rule_45 (by decide) ?_
      refine lv_icmp_eq (tgt := 64) hx hb dX8_rule_46 (by decide) (fun c7 => ?_) (fun c7 => absurd (by decide) c7)
      have r3 : ¬ ¬ ∀ k, ci 0 = some k → mQm kn am al pq t q (pq q 17) k := fun z => z (fun k9 h9 => by rw [o5] at h9; cases h9)
      refine lv_iload hx hb dX8_rule_64 (lv_at hl 1 rfl) ?_
      refine lv_if_ne (tgt := 82) hx hb dX8_rule_66 (by decide) (fun c8 => absurd c8 (fun h9 => h9 ((nI_eq (a := (pq q 17)) (b := 0) (by omega) (by omega)).mpr (kc6)))) (fun c8 => ?_)
      refine lv_aload_n hx hb dX8_rule_69 rfl (lv_at hl 2 rfl) ?_
      refine lv_iload_n hx hb dX8_rule_70 rfl (lv_at hl 3 rfl) ?_
      refine lv_iconst (v := 0) hx hb dX8_rule_71 (by decide) ?_
      refine lv_iload_n hx hb dX8_rule_72 rfl (lv_at hl 3 rfl) ?_
      refine lv_lload_n hx hb dX8_rule_73 rfl (lv_at hl 4 rfl) ?_
      have hP := hP.sub (ws' := [(mo, .inr (9, mOb ad th (nI kn) (nI rn) (nI mn) (nI dp))), (ad 29, aI E 256 a29), (ad 30, aI E 32 a30), (ad 34, aI E 16 a34), (ad 35, aI E 8 a35), (ad 36, aI E 8 a36)] ++ []) [0, 1, 2, 3, 4, 5] rfl
      have hD := hD.sub (ws' := [(mo, .inr (9, mOb ad th (nI kn) (nI rn) (nI mn) (nI dp))), (ad 29, aI E 256 a29), (ad 30, aI E 32 a30), (ad 34, aI E 16 a34), (ad 35, aI E 8 a35), (ad 36, aI E 8 a36)] ++ []) [0, 1, 2, 3, 4, 5] (by decide) rfl
      refine xci (va_runV (As := [.int (nI q), .int 0, .int (nI q), .long t]) (rest := []) ⟨hx, hb, hml, hown, hts⟩ (kX8_hasQuorum l E mo ad th kn rn mn dp a29 a30 a34 a35 a36 (al 3) (al 14) (am 32) (am 33) (am 8) (am 9) (am 10) (am 11) (am 12) (am 13) (am 15) (am 16) (am 17) (am 18) (am 19) (am 20) (am 21) (am 22) (am 23) (am 24) (am 25) (al 26) (al 4) (am 5) q (pq q 17) (pq q 12) (pq q 15) (pq q 16) (pq q 13) (pq q 14) 0 q t (by first | assumption | omega) (by first | assumption | omega) (by first | assumption | omega) (by first | assumption | omega) (by first | assumption | omega) (by first | assumption | omega) (by first | assumption | omega) (by first | assumption | omega) (by first | assumption | omega) (by first | assumption | omega) (by first | assumption | omega) (by first | assumption | omega) (by first | assumption | omega) (by first | assumption | omega) (by first | assumption | omega) (by first | assumption | omega) (by first | assumption | omega) (by first | assumption | omega) H.size) (cwV 4 hts gX8_rule_X8_hasQuorum rfl rfl rfl (by decide +kernel) ⟨Nat.le_of_ble_eq_true rfl, Nat.le_of_ble_eq_true rfl⟩) ⟨CP.blind, (va_recv hev.1 hP.left (ci := 9) (q0 := 0) rfl rfl), (xpre hev hz hA hP hD hS hR0 hap [0, 1, 2, 3, 4, 5, 6, 7, 8, 9, 10, 11, 12, 13, 14, 15, 16, 17, 18, 19, 20, 21, 22, 23] rfl)⟩ rfl rfl hl.1 rfl (lv_room (Nat.le_of_ble_eq_true rfl)) dX8_rule_74 ⟨Nat.le_of_ble_eq_true rfl, Nat.le_of_ble_eq_true rfl⟩) hP hD hS hA (fun r9 w10 H locs h11 hP hD hS => ?_)
      obtain ⟨m212, g2913, g3014, g3415, g3516, g3617, rfl, rfl, h11⟩ := h11
      try dsimp only at h11
      have hP : va_P E.1 vwCl [(mo, .inr (9, mOb ad th (nI kn) (nI rn) (nI m212) (nI dp))), (ad 29, aI E 256 g2913), (ad 30, aI E 32 g3014), (ad 34, aI E 16 g3415), (ad 35, aI E 8 g3516), (ad 36, aI E 8 g3617)] H := hP
      have hD : va_D A [(mo, .inr (9, mOb ad th (nI kn) (nI rn) (nI m212) (nI dp))), (ad 29, aI E 256 g2913), (ad 30, aI E 32 g3014), (ad 34, aI E 16 g3415), (ad 35, aI E 8 g3516), (ad 36, aI E 8 g3617)] := hD
      refine xtop (y := b1 (mQm kn am al pq t q 0 q)) (rfl) ?_
      refine lv_if_ne (tgt := 82) hx hb dX8_rule_77 (by decide) (fun c18 => ?_) (fun c18 => ?_)
      · skip
        have kc18 := b1_n.mp c18
        have r4 : ¬ (pq q 17 = 0 ∧ ¬ mQm kn am al pq t q 0 q) := fun z => z.2 kc18
        refine lv_aload_n hx hb dX8_rule_82 rfl (lv_at hl 2 rfl) ?_
        refine xgt TX8_27 (v := .ref (ad 27)) hx hb hts hiX8 hown hev.1 hP 0 rfl (by decide) hf84 rfl dX8_rule_83 ?_
        refine lv_iload hx hb dX8_rule_86 (lv_at hl 1 rfl) ?_
        refine xiald (k := (pq q 17)) hx hb hev.1 (xro hR0 hap hS) 24 1 rfl rfl (by omega) (by decide) dX8_rule_88 ?_
        cases o19 : ci (pq q 17) with
        | none =>
          refine xtop (y := (-1)) ((hnw _ (by omega)).trans (nw_n o19)) ?_
          refine lv_iconst (v := (-1)) hx hb dX8_rule_89 (by decide) ?_
          refine lv_icmp_ne (tgt := 97) hx hb dX8_rule_90 (by decide) (fun c20 => absurd c20 (by decide)) (fun c20 => ?_)
          refine lv_iconst (v := 0) hx hb dX8_rule_93 (by decide) ?_
          refine lv_goto (tgt := 109) hx hb dX8_rule_94 (by decide) ?_
          refine xtop (y := mWas ci am (pq q 17)) ((mWas_n o19).symm) ?_
          refine lv_istore (lv' := [(6, .int (mWas ci am (pq q 17))), (5, .int (-1)), (4, .int (nI (pq q 17))), (0, .ref mo), (1, .int (nI q)), (2, .long t)]) hx hb dX8_rule_109 hl (by decide) rfl (fun ls hl => ?_)
          refine lv_iload hx hb dX8_rule_111 (lv_at hl 2 rfl) ?_
          refine lv_if_ne (tgt := 138) hx hb dX8_rule_113 (by decide) (fun c21 => absurd c21 (fun h9 => h9 ((nI_eq (a := (pq q 17)) (b := 0) (by omega) (by omega)).mpr (kc6)))) (fun c21 => ?_)
          refine lv_iload hx hb dX8_rule_116 (lv_at hl 1 rfl) ?_
          refine lv_iconst (v := (-1)) hx hb dX8_rule_118 (by decide) ?_
          refine lv_icmp_eq (tgt := 151) hx hb dX8_rule_119 (by decide) (fun c22 => ?_) (fun c22 => absurd (by decide) c22)
          have r5 : ¬ ¬ mFol ci am pq q := fun z => z ⟨fun _ k9 h9 => (by rw [o5] at h9; cases h9), fun z => absurd kc6 z⟩
          refine lv_aload_n hx hb dX8_rule_151 rfl (lv_at hl 3 rfl) ?_
          refine lv_iload_n hx hb dX8_rule_152 rfl (lv_at hl 4 rfl) ?_
          refine lv_lload_n hx hb dX8_rule_153 rfl (lv_at hl 5 rfl) ?_
          have hP := hP.sub (ws' := [] ++ [(mo, .inr (9, mOb ad th (nI kn) (nI rn) (nI m212) (nI dp))), (ad 29, aI E 256 g2913), (ad 30, aI E 32 g3014), (ad 34, aI E 16 g3415), (ad 35, aI E 8 g3516), (ad 36, aI E 8 g3617)]) [0, 1, 2, 3, 4, 5] rfl
          have hD := hD.sub (ws' := [] ++ [(mo, .inr (9, mOb ad th (nI kn) (nI rn) (nI m212) (nI dp))), (ad 29, aI E 256 g2913), (ad 30, aI E 32 g3014), (ad 34, aI E 16 g3415), (ad 35, aI E 8 g3516), (ad 36, aI E 8 g3617)]) [0, 1, 2, 3, 4, 5] (by decide) rfl
          refine xci (va_runV (As := [.int (nI q), .long t]) (rest := []) ⟨hx, hb, hml, hown, hts⟩ (kX8_isAlive l E mo ad th kn rn m212 dp (al 14) q t (by first | assumption | omega) H.size) (cwV 2 hts gX8_rule_X8_isAlive rfl rfl rfl (by decide +kernel) ⟨Nat.le_of_ble_eq_true rfl, Nat.le_of_ble_eq_true rfl⟩) ⟨CP.blind, (va_recv hev.1 hP (ci := 9) (q0 := 0) rfl rfl), (xpre hev hz hA hP hD hS hR0 hap [0, 7] rfl)⟩ rfl rfl hl.1 rfl (lv_room (Nat.le_of_ble_eq_true rfl)) dX8_rule_154 ⟨Nat.le_of_ble_eq_true rfl, Nat.le_of_ble_eq_true rfl⟩) hP hD hS hA (fun r23 w24 H locs h25 hP hD hS => ?_)
          obtain ⟨rfl, rfl, h25⟩ := h25
          try dsimp only at h25
          have hP : va_P E.1 vwCl [(mo, .inr (9, mOb ad th (nI kn) (nI rn) (nI m212) (nI dp))), (ad 29, aI E 256 g2913), (ad 30, aI E 32 g3014), (ad 34, aI E 16 g3415), (ad 35, aI E 8 g3516), (ad 36, aI E 8 g3617)] H := hP
          have hD : va_D A [(mo, .inr (9, mOb ad th (nI kn) (nI rn) (nI m212) (nI dp))), (ad 29, aI E 256 g2913), (ad 30, aI E 32 g3014), (ad 34, aI E 16 g3415), (ad 35, aI E 8 g3516), (ad 36, aI E 8 g3617)] := hD
          refine lv_if_ne (tgt := 163) hx hb dX8_rule_157 (by decide) (fun c26 => ?_) (fun c26 => ?_)
          · skip
            have kc26 := b1_n.mp c26
            have r6 := kc26
            refine lv_iload hx hb dX8_rule_163 (lv_at hl 2 rfl) ?_
            refine lv_iconst (v := 2) hx hb dX8_rule_165 (by decide) ?_
            refine lv_icmp_ne (tgt := 179) hx hb dX8_rule_166 (by decide) (fun c27 => ?_) (fun c27 => ?_)
            · skip
              have kc27 : ¬ (pq q 17) = 2 := fun h9 => c27 ((nI_eq (a := (pq q 17)) (b := 2) (by omega) (by omega)).mpr h9)
              refine lv_iload hx hb dX8_rule_179 (lv_at hl 2 rfl) ?_
              refine lv_iconst (v := 3) hx hb dX8_rule_181 (by decide) ?_
              refine lv_icmp_lt (tgt := 198) hx hb dX8_rule_182 (by decide) (fun c28 => ?_) (fun c28 => ?_)
              · skip
                have kc28 : (pq q 17) < 3 := (nI_ltI (a := (pq q 17)) (b := 3) (by omega) (by omega)).mp c28
                have r7 : ¬ ¬ mT7 ci am al pq t q := fun z => z ⟨fun z => absurd z kc27, fun z => absurd kc28 z⟩
                refine lv_iload hx hb dX8_rule_198 (lv_at hl 2 rfl) ?_
                refine lv_iconst (v := 2) hx hb dX8_rule_200 (by decide) ?_
                refine lv_icmp_ne (tgt := 231) hx hb dX8_rule_201 (by decide) (fun c29 => ?_) (fun c29 => absurd c29 (fun h9 => absurd ((nI_eq (a := (pq q 17)) (b := 2) (by omega) (by omega)).mp h9) (kc27)))
                refine lv_iconst (v := 0) hx hb dX8_rule_231 (by decide) ?_
                refine xri hx hb hr hlocks hP hD hS ⟨m212, g2913, g3014, g3415, g3516, g3617, rfl, ?_, ?_⟩ dX8_rule_232
                · rw [mrl, pick_f r2, pick_f r3, pick_f r4, pick_f r5, pick_f r6, pick_f r7, pick_f (fun z => z (fun z9 => absurd z9 kc27))]
                  rfl
                · trivial
              · skip
                have kc28 : ¬ (pq q 17) < 3 := fun h9 => c28 ((nI_ltI (a := (pq q 17)) (b := 3) (by omega) (by omega)).mpr h9)
                refine lv_aload_n hx hb dX8_rule_185 rfl (lv_at hl 3 rfl) ?_
                refine lv_iconst (v := 2) hx hb dX8_rule_186 (by decide) ?_
                refine lv_iload_n hx hb dX8_rule_187 rfl (lv_at hl 4 rfl) ?_
                refine lv_lload_n hx hb dX8_rule_188 rfl (lv_at hl 5 rfl) ?_
                have hP := hP.sub (ws' := [] ++ [(mo, .inr (9, mOb ad th (nI kn) (nI rn) (nI m212) (nI dp))), (ad 29, aI E 256 g2913), (ad 30, aI E 32 g3014), (ad 34, aI E 16 g3415), (ad 35, aI E 8 g3516), (ad 36, aI E 8 g3617)]) [0, 1, 2, 3, 4, 5] rfl
                have hD := hD.sub (ws' := [] ++ [(mo, .inr (9, mOb ad th (nI kn) (nI rn) (nI m212) (nI dp))), (ad 29, aI E 256 g2913), (ad 30, aI E 32 g3014), (ad 34, aI E 16 g3415), (ad 35, aI E 8 g3516), (ad 36, aI E 8 g3617)]) [0, 1, 2, 3, 4, 5] (by decide) rfl
                refine xci (va_runV (As := [.int 2, .int (nI q), .long t]) (rest := []) ⟨hx, hb, hml, hown, hts⟩ (kX8_isTold l E mo ad th kn rn m212 dp am al pq ci 2 q t (by first | assumption | omega) (by first | assumption | omega) (by first | assumption | omega) (by first | assumption | omega) (by first | assumption | omega) (by first | assumption | omega) H.size) (cwV 3 hts gX8_rule_X8_isTold rfl rfl rfl (by decide +kernel) ⟨Nat.le_of_ble_eq_true rfl, Nat.le_of_ble_eq_true rfl⟩) ⟨CP.blind, (va_recv hev.1 hP (ci := 9) (q0 := 0) rfl rfl), (xpre hev hz hA hP hD hS hR0 hap [0, 30, 7, 16, 17, 18, 12, 13] rfl)⟩ rfl rfl hl.1 rfl (lv_room (Nat.le_of_ble_eq_true rfl)) dX8_rule_189 ⟨Nat.le_of_ble_eq_true rfl, Nat.le_of_ble_eq_true rfl⟩) hP hD hS hA (fun r30 w31 H locs h32 hP hD hS => ?_)
                obtain ⟨rfl, rfl, h32⟩ := h32
                try dsimp only at h32
                have hP : va_P E.1 vwCl [(mo, .inr (9, mOb ad th (nI kn) (nI rn) (nI m212) (nI dp))), (ad 29, aI E 256 g2913), (ad 30, aI E 32 g3014), (ad 34, aI E 16 g3415), (ad 35, aI E 8 g3516), (ad 36, aI E 8 g3617)] H := hP
                have hD : va_D A [(mo, .inr (9, mOb ad th (nI kn) (nI rn) (nI m212) (nI dp))), (ad 29, aI E 256 g2913), (ad 30, aI E 32 g3014), (ad 34, aI E 16 g3415), (ad 35, aI E 8 g3516), (ad 36, aI E 8 g3617)] := hD
                refine lv_if_ne (tgt := 198) hx hb dX8_rule_192 (by decide) (fun c33 => ?_) (fun c33 => ?_)
                · skip
                  have kc33 := b1_n.mp c33
                  have r7 : ¬ ¬ mT7 ci am al pq t q := fun z => z ⟨fun z => absurd z kc27, fun _ => kc33⟩
                  refine lv_iload hx hb dX8_rule_198 (lv_at hl 2 rfl) ?_
                  refine lv_iconst (v := 2) hx hb dX8_rule_200 (by decide) ?_
                  refine lv_icmp_ne (tgt := 231) hx hb dX8_rule_201 (by decide) (fun c34 => ?_) (fun c34 => absurd c34 (fun h9 => absurd ((nI_eq (a := (pq q 17)) (b := 2) (by omega) (by omega)).mp h9) (kc27)))
                  refine lv_iconst (v := 0) hx hb dX8_rule_231 (by decide) ?_
                  refine xri hx hb hr hlocks hP hD hS ⟨m212, g2913, g3014, g3415, g3516, g3617, rfl, ?_, ?_⟩ dX8_rule_232
                  · rw [mrl, pick_f r2, pick_f r3, pick_f r4, pick_f r5, pick_f r6, pick_f r7, pick_f (fun z => z (fun z9 => absurd z9 kc27))]
                    rfl
                  · trivial
                · skip
                  have kc33 := b1_0.mp c33
                  refine lv_bipush (v := 7) hx hb dX8_rule_195 (by decide) ?_
                  refine xri hx hb hr hlocks hP hD hS ⟨m212, g2913, g3014, g3415, g3516, g3617, rfl, ?_, ?_⟩ dX8_rule_197
                  · rw [mrl, pick_f r2, pick_f r3, pick_f r4, pick_f r5, pick_f r6, pick_t (fun z => kc33 (z.2 kc28))]
                    rfl
                  · trivial
            · skip
              have kc27 : (pq q 17) = 2 := (nI_eq (a := (pq q 17)) (b := 2) (by omega) (by omega)).mp c27
              refine lv_aload_n hx hb dX8_rule_169 rfl (lv_at hl 3 rfl) ?_
              refine lv_iconst (v := 1) hx hb dX8_rule_170 (by decide) ?_
              refine lv_iload_n hx hb dX8_rule_171 rfl (lv_at hl 4 rfl) ?_
              refine lv_lload_n hx hb dX8_rule_172 rfl (lv_at hl 5 rfl) ?_
              have hP := hP.sub (ws' := [] ++ [(mo, .inr (9, mOb ad th (nI kn) (nI rn) (nI m212) (nI dp))), (ad 29, aI E 256 g2913), (ad 30, aI E 32 g3014), (ad 34, aI E 16 g3415), (ad 35, aI E 8 g3516), (ad 36, aI E 8 g3617)]) [0, 1, 2, 3, 4, 5] rfl
              have hD := hD.sub (ws' := [] ++ [(mo, .inr (9, mOb ad th (nI kn) (nI rn) (nI m212) (nI dp))), (ad 29, aI E 256 g2913), (ad 30, aI E 32 g3014), (ad 34, aI E 16 g3415), (ad 35, aI E 8 g3516), (ad 36, aI E 8 g3617)]) [0, 1, 2, 3, 4, 5] (by decide) rfl
              refine xci (va_runV (As := [.int 1, .int (nI q), .long t]) (rest := []) ⟨hx, hb, hml, hown, hts⟩ (kX8_isTold l E mo ad th kn rn m212 dp am al pq ci 1 q t (by first | assumption | omega) (by first | assumption | omega) (by first | assumption | omega) (by first | assumption | omega) (by first | assumption | omega) (by first | assumption | omega) H.size) (cwV 3 hts gX8_rule_X8_isTold rfl rfl rfl (by decide +kernel) ⟨Nat.le_of_ble_eq_true rfl, Nat.le_of_ble_eq_true rfl⟩) ⟨CP.blind, (va_recv hev.1 hP (ci := 9) (q0 := 0) rfl rfl), (xpre hev hz hA hP hD hS hR0 hap [0, 30, 7, 16, 17, 18, 12, 13] rfl)⟩ rfl rfl hl.1 rfl (lv_room (Nat.le_of_ble_eq_true rfl)) dX8_rule_173 ⟨Nat.le_of_ble_eq_true rfl, Nat.le_of_ble_eq_true rfl⟩) hP hD hS hA (fun r35 w36 H locs h37 hP hD hS => ?_)
              obtain ⟨rfl, rfl, h37⟩ := h37
              try dsimp only at h37
              have hP : va_P E.1 vwCl [(mo, .inr (9, mOb ad th (nI kn) (nI rn) (nI m212) (nI dp))), (ad 29, aI E 256 g2913), (ad 30, aI E 32 g3014), (ad 34, aI E 16 g3415), (ad 35, aI E 8 g3516), (ad 36, aI E 8 g3617)] H := hP
              have hD : va_D A [(mo, .inr (9, mOb ad th (nI kn) (nI rn) (nI m212) (nI dp))), (ad 29, aI E 256 g2913), (ad 30, aI E 32 g3014), (ad 34, aI E 16 g3415), (ad 35, aI E 8 g3516), (ad 36, aI E 8 g3617)] := hD
              refine lv_if_eq (tgt := 195) hx hb dX8_rule_176 (by decide) (fun c38 => ?_) (fun c38 => ?_)
              · skip
                have kc38 := b1_0.mp c38
                refine lv_bipush (v := 7) hx hb dX8_rule_195 (by decide) ?_
                refine xri hx hb hr hlocks hP hD hS ⟨m212, g2913, g3014, g3415, g3516, g3617, rfl, ?_, ?_⟩ dX8_rule_197
                · rw [mrl, pick_f r2, pick_f r3, pick_f r4, pick_f r5, pick_f r6, pick_t (fun z => kc38 (z.1 kc27))]
                  rfl
                · trivial
              · skip
                have kc38 := b1_n.mp c38
                refine lv_iload hx hb dX8_rule_179 (lv_at hl 2 rfl) ?_
                refine lv_iconst (v := 3) hx hb dX8_rule_181 (by decide) ?_
                refine lv_icmp_lt (tgt := 198) hx hb dX8_rule_182 (by decide) (fun c39 => ?_) (fun c39 => absurd ((nI_ltI (a := (pq q 17)) (b := 3) (by omega) (by omega)).mpr (by omega)) c39)
                have r7 : ¬ ¬ mT7 ci am al pq t q := fun z => z ⟨fun _ => kc38, fun z => absurd (show pq q 17 < 3 by omega) z⟩
                refine lv_iload hx hb dX8_rule_198 (lv_at hl 2 rfl) ?_
                refine lv_iconst (v := 2) hx hb dX8_rule_200 (by decide) ?_
                refine lv_icmp_ne (tgt := 231) hx hb dX8_rule_201 (by decide) (fun c40 => absurd c40 (fun h9 => h9 ((nI_eq (a := (pq q 17)) (b := 2) (by omega) (by omega)).mpr (kc27)))) (fun c40 => ?_)
                refine lv_aload_n hx hb dX8_rule_204 rfl (lv_at hl 3 rfl) ?_
                refine xgt TX8_27 (v := .ref (ad 27)) hx hb hts hiX8 hown hev.1 hP 0 rfl (by decide) hf84 rfl dX8_rule_205 ?_
                refine lv_iconst (v := 2) hx hb dX8_rule_208 (by decide) ?_
                refine xiald (k := 2) hx hb hev.1 (xro hR0 hap hS) 24 1 rfl rfl (by omega) (by decide) dX8_rule_209 ?_
                cases o41 : ci 2 with
                | none =>
                  refine xtop (y := (-1)) ((hnw _ (by omega)).trans (nw_n o41)) ?_
                  refine lv_iconst (v := (-1)) hx hb dX8_rule_210 (by decide) ?_
                  refine lv_icmp_eq (tgt := 231) hx hb dX8_rule_211 (by decide) (fun c42 => ?_) (fun c42 => absurd (by decide) c42)
                  refine lv_iconst (v := 0) hx hb dX8_rule_231 (by decide) ?_
                  refine xri hx hb hr hlocks hP hD hS ⟨m212, g2913, g3014, g3415, g3516, g3617, rfl, ?_, ?_⟩ dX8_rule_232
                  · rw [mrl, pick_f r2, pick_f r3, pick_f r4, pick_f r5, pick_f r6, pick_f r7, pick_f (fun z => z (fun _ k9 h9 => by rw [o41] at h9; cases h9))]
                    rfl
                  · trivial
                | some k2 =>
                  have hkk2 : k2 < rn := hci _ _ o41
                  refine xtop (y := nI k2) ((hnw _ (by omega)).trans (nw_s o41)) ?_
                  obtain ⟨h10B, h12B, h15B, h18B, h22B, h24B, hb10B, hb12B, hb15B, hb18B, hb22B, hb24B⟩ := hmk k2 (hkk2)
                  refine lv_iconst (v := (-1)) hx hb dX8_rule_210 (by decide) ?_
                  refine lv_icmp_eq (tgt := 231) hx hb dX8_rule_211 (by decide) (fun c43 => absurd c43 (nI_ne1 (by omega))) (fun c43 => ?_)
                  refine lv_aload_n hx hb dX8_rule_214 rfl (lv_at hl 3 rfl) ?_
                  refine lv_aload_n hx hb dX8_rule_215 rfl (lv_at hl 3 rfl) ?_
                  refine xgt TX8_27 (v := .ref (ad 27)) hx hb hts hiX8 hown hev.1 hP 0 rfl (by decide) hf84 rfl dX8_rule_216 ?_
                  refine lv_iconst (v := 2) hx hb dX8_rule_219 (by decide) ?_
                  refine xiald (k := 2) hx hb hev.1 (xro hR0 hap hS) 24 1 rfl rfl (by omega) (by decide) dX8_rule_220 ?_
                  refine xtop (y := nI k2) ((hnw _ (by omega)).trans (nw_s o41)) ?_
                  refine lv_iload_n hx hb dX8_rule_221 rfl (lv_at hl 4 rfl) ?_
                  have hP := hP.sub (ws' := [] ++ [(mo, .inr (9, mOb ad th (nI kn) (nI rn) (nI m212) (nI dp))), (ad 29, aI E 256 g2913), (ad 30, aI E 32 g3014), (ad 34, aI E 16 g3415), (ad 35, aI E 8 g3516), (ad 36, aI E 8 g3617)]) [0, 1, 2, 3, 4, 5] rfl
                  have hD := hD.sub (ws' := [] ++ [(mo, .inr (9, mOb ad th (nI kn) (nI rn) (nI m212) (nI dp))), (ad 29, aI E 256 g2913), (ad 30, aI E 32 g3014), (ad 34, aI E 16 g3415), (ad 35, aI E 8 g3516), (ad 36, aI E 8 g3617)]) [0, 1, 2, 3, 4, 5] (by decide) rfl
                  refine xci (va_runV (As := [.int (nI k2), .int (nI q)]) (rest := []) ⟨hx, hb, hml, hown, hts⟩ (kX8_goesOn l E mo ad th kn rn m212 dp am al pq k2 q (by first | assumption | omega) (by first | assumption | omega) (by first | assumption | omega) (by first | assumption | omega) H.size) (cwV 2 hts gX8_rule_X8_goesOn rfl rfl rfl (by decide +kernel) ⟨Nat.le_of_ble_eq_true rfl, Nat.le_of_ble_eq_true rfl⟩) ⟨CP.blind, (va_recv hev.1 hP (ci := 9) (q0 := 0) rfl rfl), (xpre hev hz hA hP hD hS hR0 hap [0, 16, 17, 18] rfl)⟩ rfl rfl hl.1 rfl (lv_room (Nat.le_of_ble_eq_true rfl)) dX8_rule_222 ⟨Nat.le_of_ble_eq_true rfl, Nat.le_of_ble_eq_true rfl⟩) hP hD hS hA (fun r44 w45 H locs h46 hP hD hS => ?_)
                  obtain ⟨rfl, rfl, h46⟩ := h46
                  try dsimp only at h46
                  have hP : va_P E.1 vwCl [(mo, .inr (9, mOb ad th (nI kn) (nI rn) (nI m212) (nI dp))), (ad 29, aI E 256 g2913), (ad 30, aI E 32 g3014), (ad 34, aI E 16 g3415), (ad 35, aI E 8 g3516), (ad 36, aI E 8 g3617)] H := hP
                  have hD : va_D A [(mo, .inr (9, mOb ad th (nI kn) (nI rn) (nI m212) (nI dp))), (ad 29, aI E 256 g2913), (ad 30, aI E 32 g3014), (ad 34, aI E 16 g3415), (ad 35, aI E 8 g3516), (ad 36, aI E 8 g3617)] := hD
                  refine lv_if_ne (tgt := 231) hx hb dX8_rule_225 (by decide) (fun c47 => ?_) (fun c47 => ?_)
                  · skip
                    have kc47 := b1_n.mp c47
                    refine lv_iconst (v := 0) hx hb dX8_rule_231 (by decide) ?_
                    refine xri hx hb hr hlocks hP hD hS ⟨m212, g2913, g3014, g3415, g3516, g3617, rfl, ?_, ?_⟩ dX8_rule_232
                    · rw [mrl, pick_f r2, pick_f r3, pick_f r4, pick_f r5, pick_f r6, pick_f r7, pick_f (fun z => z (fun _ k9 h9 => by rw [o41] at h9; cases h9; exact kc47))]
                      rfl
                    · trivial
                  · skip
                    have kc47 := b1_0.mp c47
                    refine lv_bipush (v := 8) hx hb dX8_rule_228 (by decide) ?_
                    refine xri hx hb hr hlocks hP hD hS ⟨m212, g2913, g3014, g3415, g3516, g3617, rfl, ?_, ?_⟩ dX8_rule_230
                    · rw [mrl, pick_f r2, pick_f r3, pick_f r4, pick_f r5, pick_f r6, pick_f r7, pick_t (fun z => kc47 (z kc27 k2 o41))]
                      rfl
                    · trivial
          · skip
            have kc26 := b1_0.mp c26
            refine lv_bipush (v := 6) hx hb dX8_rule_160 (by decide) ?_
            refine xri hx hb hr hlocks hP hD hS ⟨m212, g2913, g3014, g3415, g3516, g3617, rfl, ?_, ?_⟩ dX8_rule_162
            · rw [mrl, pick_f r2, pick_f r3, pick_f r4, pick_f r5, pick_t (Classical.not_not.mp kc26)]
              rfl
            · trivial
        | some kw =>
          have hkkw : kw < rn := hci _ _ o19
          refine xtop (y := nI kw) ((hnw _ (by omega)).trans (nw_s o19)) ?_
          obtain ⟨h10W, h12W, h15W, h18W, h22W, h24W, hb10W, hb12W, hb15W, hb18W, hb22W, hb24W⟩ := hmk kw (hkkw)
          refine lv_iconst (v := (-1)) hx hb dX8_rule_89 (by decide) ?_
          refine lv_icmp_ne (tgt := 97) hx hb dX8_rule_90 (by decide) (fun c48 => ?_) (fun c48 => absurd c48 (nI_ne1 (by omega)))
          refine lv_aload_n hx hb dX8_rule_97 rfl (lv_at hl 2 rfl) ?_
          refine xgt TX8_11 (v := .ref (ad 11)) hx hb hts hiX8 hown hev.1 hP 0 rfl (by decide) hf36 rfl dX8_rule_98 ?_
          refine lv_aload_n hx hb dX8_rule_101 rfl (lv_at hl 2 rfl) ?_
          refine xgt TX8_27 (v := .ref (ad 27)) hx hb hts hiX8 hown hev.1 hP 0 rfl (by decide) hf84 rfl dX8_rule_102 ?_
          refine lv_iload hx hb dX8_rule_105 (lv_at hl 1 rfl) ?_
          refine xiald (k := (pq q 17)) hx hb hev.1 (xro hR0 hap hS) 24 1 rfl rfl (by omega) (by decide) dX8_rule_107 ?_
          refine xtop (y := nI kw) ((hnw _ (by omega)).trans (nw_s o19)) ?_
          refine xiald (k := (kw)) hx hb hev.1 (xro hR0 hap hS) 7 1 rfl rfl (by omega) (by decide) dX8_rule_108 ?_
          refine xtop (y := mWas ci am (pq q 17)) ((mWas_s o19).symm) ?_
          refine lv_istore (lv' := [(6, .int (mWas ci am (pq q 17))), (5, .int (-1)), (4, .int (nI (pq q 17))), (0, .ref mo), (1, .int (nI q)), (2, .long t)]) hx hb dX8_rule_109 hl (by decide) rfl (fun ls hl => ?_)
          refine lv_iload hx hb dX8_rule_111 (lv_at hl 2 rfl) ?_
          refine lv_if_ne (tgt := 138) hx hb dX8_rule_113 (by decide) (fun c49 => absurd c49 (fun h9 => h9 ((nI_eq (a := (pq q 17)) (b := 0) (by omega) (by omega)).mpr (kc6)))) (fun c49 => ?_)
          refine lv_iload hx hb dX8_rule_116 (lv_at hl 1 rfl) ?_
          refine lv_iconst (v := (-1)) hx hb dX8_rule_118 (by decide) ?_
          refine lv_icmp_eq (tgt := 151) hx hb dX8_rule_119 (by decide) (fun c50 => ?_) (fun c50 => absurd (by decide) c50)
          have r5 : ¬ ¬ mFol ci am pq q := fun z => z ⟨fun _ k9 h9 => (by rw [o5] at h9; cases h9), fun z => absurd kc6 z⟩
          refine lv_aload_n hx hb dX8_rule_151 rfl (lv_at hl 3 rfl) ?_
          refine lv_iload_n hx hb dX8_rule_152 rfl (lv_at hl 4 rfl) ?_
          refine lv_lload_n hx hb dX8_rule_153 rfl (lv_at hl 5 rfl) ?_
          have hP := hP.sub (ws' := [] ++ [(mo, .inr (9, mOb ad th (nI kn) (nI rn) (nI m212) (nI dp))), (ad 29, aI E 256 g2913), (ad 30, aI E 32 g3014), (ad 34, aI E 16 g3415), (ad 35, aI E 8 g3516), (ad 36, aI E 8 g3617)]) [0, 1, 2, 3, 4, 5] rfl
          have hD := hD.sub (ws' := [] ++ [(mo, .inr (9, mOb ad th (nI kn) (nI rn) (nI m212) (nI dp))), (ad 29, aI E 256 g2913), (ad 30, aI E 32 g3014), (ad 34, aI E 16 g3415), (ad 35, aI E 8 g3516), (ad 36, aI E 8 g3617)]) [0, 1, 2, 3, 4, 5] (by decide) rfl
          refine xci (va_runV (As := [.int (nI q), .long t]) (rest := []) ⟨hx, hb, hml, hown, hts⟩ (kX8_isAlive l E mo ad th kn rn m212 dp (al 14) q t (by first | assumption | omega) H.size) (cwV 2 hts gX8_rule_X8_isAlive rfl rfl rfl (by decide +kernel) ⟨Nat.le_of_ble_eq_true rfl, Nat.le_of_ble_eq_true rfl⟩) ⟨CP.blind, (va_recv hev.1 hP (ci := 9) (q0 := 0) rfl rfl), (xpre hev hz hA hP hD hS hR0 hap [0, 7] rfl)⟩ rfl rfl hl.1 rfl (lv_room (Nat.le_of_ble_eq_true rfl)) dX8_rule_154 ⟨Nat.le_of_ble_eq_true rfl, Nat.le_of_ble_eq_true rfl⟩) hP hD hS hA (fun r51 w52 H locs h53 hP hD hS => ?_)
          obtain ⟨rfl, rfl, h53⟩ := h53
          try dsimp only at h53
          have hP : va_P E.1 vwCl [(mo, .inr (9, mOb ad th (nI kn) (nI rn) (nI m212) (nI dp))), (ad 29, aI E 256 g2913), (ad 30, aI E 32 g3014), (ad 34, aI E 16 g3415), (ad 35, aI E 8 g3516), (ad 36, aI E 8 g3617)] H := hP
          have hD : va_D A [(mo, .inr (9, mOb ad th (nI kn) (nI rn) (nI m212) (nI dp))), (ad 29, aI E 256 g2913), (ad 30, aI E 32 g3014), (ad 34, aI E 16 g3415), (ad 35, aI E 8 g3516), (ad 36, aI E 8 g3617)] := hD
          refine lv_if_ne (tgt := 163) hx hb dX8_rule_157 (by decide) (fun c54 => ?_) (fun c54 => ?_)
          · skip
            have kc54 := b1_n.mp c54
            have r6 := kc54
            refine lv_iload hx hb dX8_rule_163 (lv_at hl 2 rfl) ?_
            refine lv_iconst (v := 2) hx hb dX8_rule_165 (by decide) ?_
            refine lv_icmp_ne (tgt := 179) hx hb dX8_rule_166 (by decide) (fun c55 => ?_) (fun c55 => ?_)
            · skip
              have kc55 : ¬ (pq q 17) = 2 := fun h9 => c55 ((nI_eq (a := (pq q 17)) (b := 2) (by omega) (by omega)).mpr h9)
              refine lv_iload hx hb dX8_rule_179 (lv_at hl 2 rfl) ?_
              refine lv_iconst (v := 3) hx hb dX8_rule_181 (by decide) ?_
              refine lv_icmp_lt (tgt := 198) hx hb dX8_rule_182 (by decide) (fun c56 => ?_) (fun c56 => ?_)
              · skip
                have kc56 : (pq q 17) < 3 := (nI_ltI (a := (pq q 17)) (b := 3) (by omega) (by omega)).mp c56
                have r7 : ¬ ¬ mT7 ci am al pq t q := fun z => z ⟨fun z => absurd z kc55, fun z => absurd kc56 z⟩
                refine lv_iload hx hb dX8_rule_198 (lv_at hl 2 rfl) ?_
                refine lv_iconst (v := 2) hx hb dX8_rule_200 (by decide) ?_
                refine lv_icmp_ne (tgt := 231) hx hb dX8_rule_201 (by decide) (fun c57 => ?_) (fun c57 => absurd c57 (fun h9 => absurd ((nI_eq (a := (pq q 17)) (b := 2) (by omega) (by omega)).mp h9) (kc55)))
                refine lv_iconst (v := 0) hx hb dX8_rule_231 (by decide) ?_
                refine xri hx hb hr hlocks hP hD hS ⟨m212, g2913, g3014, g3415, g3516, g3617, rfl, ?_, ?_⟩ dX8_rule_232
                · rw [mrl, pick_f r2, pick_f r3, pick_f r4, pick_f r5, pick_f r6, pick_f r7, pick_f (fun z => z (fun z9 => absurd z9 kc55))]
                  rfl
                · trivial
              · skip
                have kc56 : ¬ (pq q 17) < 3 := fun h9 => c56 ((nI_ltI (a := (pq q 17)) (b := 3) (by omega) (by omega)).mpr h9)
                refine lv_aload_n hx hb dX8_rule_185 rfl (lv_at hl 3 rfl) ?_
                refine lv_iconst (v := 2) hx hb dX8_rule_186 (by decide) ?_
                refine lv_iload_n hx hb dX8_rule_187 rfl (lv_at hl 4 rfl) ?_
                refine lv_lload_n hx hb dX8_rule_188 rfl (lv_at hl 5 rfl) ?_
                have hP := hP.sub (ws' := [] ++ [(mo, .inr (9, mOb ad th (nI kn) (nI rn) (nI m212) (nI dp))), (ad 29, aI E 256 g2913), (ad 30, aI E 32 g3014), (ad 34, aI E 16 g3415), (ad 35, aI E 8 g3516), (ad 36, aI E 8 g3617)]) [0, 1, 2, 3, 4, 5] rfl
                have hD := hD.sub (ws' := [] ++ [(mo, .inr (9, mOb ad th (nI kn) (nI rn) (nI m212) (nI dp))), (ad 29, aI E 256 g2913), (ad 30, aI E 32 g3014), (ad 34, aI E 16 g3415), (ad 35, aI E 8 g3516), (ad 36, aI E 8 g3617)]) [0, 1, 2, 3, 4, 5] (by decide) rfl
                refine xci (va_runV (As := [.int 2, .int (nI q), .long t]) (rest := []) ⟨hx, hb, hml, hown, hts⟩ (kX8_isTold l E mo ad th kn rn m212 dp am al pq ci 2 q t (by first | assumption | omega) (by first | assumption | omega) (by first | assumption | omega) (by first | assumption | omega) (by first | assumption | omega) (by first | assumption | omega) H.size) (cwV 3 hts gX8_rule_X8_isTold rfl rfl rfl (by decide +kernel) ⟨Nat.le_of_ble_eq_true rfl, Nat.le_of_ble_eq_true rfl⟩) ⟨CP.blind, (va_recv hev.1 hP (ci := 9) (q0 := 0) rfl rfl), (xpre hev hz hA hP hD hS hR0 hap [0, 30, 7, 16, 17, 18, 12, 13] rfl)⟩ rfl rfl hl.1 rfl (lv_room (Nat.le_of_ble_eq_true rfl)) dX8_rule_189 ⟨Nat.le_of_ble_eq_true rfl, Nat.le_of_ble_eq_true rfl⟩) hP hD hS hA (fun r58 w59 H locs h60 hP hD hS => ?_)
                obtain ⟨rfl, rfl, h60⟩ := h60
                try dsimp only at h60
                have hP : va_P E.1 vwCl [(mo, .inr (9, mOb ad th (nI kn) (nI rn) (nI m212) (nI dp))), (ad 29, aI E 256 g2913), (ad 30, aI E 32 g3014), (ad 34, aI E 16 g3415), (ad 35, aI E 8 g3516), (ad 36, aI E 8 g3617)] H := hP
                have hD : va_D A [(mo, .inr (9, mOb ad th (nI kn) (nI rn) (nI m212) (nI dp))), (ad 29, aI E 256 g2913), (ad 30, aI E 32 g3014), (ad 34, aI E 16 g3415), (ad 35, aI E 8 g3516), (ad 36, aI E 8 g3617)] := hD
                refine lv_if_ne (tgt := 198) hx hb dX8_rule_192 (by decide) (fun c61 => ?_) (fun c61 => ?_)
                · skip
                  have kc61 := b1_n.mp c61
                  have r7 : ¬ ¬ mT7 ci am al pq t q := fun z => z ⟨fun z => absurd z kc55, fun _ => kc61⟩
                  refine lv_iload hx hb dX8_rule_198 (lv_at hl 2 rfl) ?_
                  refine lv_iconst (v := 2) hx hb dX8_rule_200 (by decide) ?_
                  refine lv_icmp_ne (tgt := 231) hx hb dX8_rule_201 (by decide) (fun c62 => ?_) (fun c62 => absurd c62 (fun h9 => absurd ((nI_eq (a := (pq q 17)) (b := 2) (by omega) (by omega)).mp h9) (kc55)))
                  refine lv_iconst (v := 0) hx hb dX8_rule_231 (by decide) ?_
                  refine xri hx hb hr hlocks hP hD hS ⟨m212, g2913, g3014, g3415, g3516, g3617, rfl, ?_, ?_⟩ dX8_rule_232
                  · rw [mrl, pick_f r2, pick_f r3, pick_f r4, pick_f r5, pick_f r6, pick_f r7, pick_f (fun z => z (fun z9 => absurd z9 kc55))]
                    rfl
                  · trivial
                · skip
                  have kc61 := b1_0.mp c61
                  refine lv_bipush (v := 7) hx hb dX8_rule_195 (by decide) ?_
                  refine xri hx hb hr hlocks hP hD hS ⟨m212, g2913, g3014, g3415, g3516, g3617, rfl, ?_, ?_⟩ dX8_rule_197
                  · rw [mrl, pick_f r2, pick_f r3, pick_f r4, pick_f r5, pick_f r6, pick_t (fun z => kc61 (z.2 kc56))]
                    rfl
                  · trivial
            · skip
              have kc55 : (pq q 17) = 2 := (nI_eq (a := (pq q 17)) (b := 2) (by omega) (by omega)).mp c55
              refine lv_aload_n hx hb dX8_rule_169 rfl (lv_at hl 3 rfl) ?_
              refine lv_iconst (v := 1) hx hb dX8_rule_170 (by decide) ?_
              refine lv_iload_n hx hb dX8_rule_171 rfl (lv_at hl 4 rfl) ?_
              refine lv_lload_n hx hb dX8_rule_172 rfl (lv_at hl 5 rfl) ?_
              have hP := hP.sub (ws' := [] ++ [(mo, .inr (9, mOb ad th (nI kn) (nI rn) (nI m212) (nI dp))), (ad 29, aI E 256 g2913), (ad 30, aI E 32 g3014), (ad 34, aI E 16 g3415), (ad 35, aI E 8 g3516), (ad 36, aI E 8 g3617)]) [0, 1, 2, 3, 4, 5] rfl
              have hD := hD.sub (ws' := [] ++ [(mo, .inr (9, mOb ad th (nI kn) (nI rn) (nI m212) (nI dp))), (ad 29, aI E 256 g2913), (ad 30, aI E 32 g3014), (ad 34, aI E 16 g3415), (ad 35, aI E 8 g3516), (ad 36, aI E 8 g3617)]) [0, 1, 2, 3, 4, 5] (by decide) rfl
              refine xci (va_runV (As := [.int 1, .int (nI q), .long t]) (rest := []) ⟨hx, hb, hml, hown, hts⟩ (kX8_isTold l E mo ad th kn rn m212 dp am al pq ci 1 q t (by first | assumption | omega) (by first | assumption | omega) (by first | assumption | omega) (by first | assumption | omega) (by first | assumption | omega) (by first | assumption | omega) H.size) (cwV 3 hts gX8_rule_X8_isTold rfl rfl rfl (by decide +kernel) ⟨Nat.le_of_ble_eq_true rfl, Nat.le_of_ble_eq_true rfl⟩) ⟨CP.blind, (va_recv hev.1 hP (ci := 9) (q0 := 0) rfl rfl), (xpre hev hz hA hP hD hS hR0 hap [0, 30, 7, 16, 17, 18, 12, 13] rfl)⟩ rfl rfl hl.1 rfl (lv_room (Nat.le_of_ble_eq_true rfl)) dX8_rule_173 ⟨Nat.le_of_ble_eq_true rfl, Nat.le_of_ble_eq_true rfl⟩) hP hD hS hA (fun r63 w64 H locs h65 hP hD hS => ?_)
              obtain ⟨rfl, rfl, h65⟩ := h65
              try dsimp only at h65
              have hP : va_P E.1 vwCl [(mo, .inr (9, mOb ad th (nI kn) (nI rn) (nI m212) (nI dp))), (ad 29, aI E 256 g2913), (ad 30, aI E 32 g3014), (ad 34, aI E 16 g3415), (ad 35, aI E 8 g3516), (ad 36, aI E 8 g3617)] H := hP
              have hD : va_D A [(mo, .inr (9, mOb ad th (nI kn) (nI rn) (nI m212) (nI dp))), (ad 29, aI E 256 g2913), (ad 30, aI E 32 g3014), (ad 34, aI E 16 g3415), (ad 35, aI E 8 g3516), (ad 36, aI E 8 g3617)] := hD
              refine lv_if_eq (tgt := 195) hx hb dX8_rule_176 (by decide) (fun c66 => ?_) (fun c66 => ?_)
              · skip
                have kc66 := b1_0.mp c66
                refine lv_bipush (v := 7) hx hb dX8_rule_195 (by decide) ?_
                refine xri hx hb hr hlocks hP hD hS ⟨m212, g2913, g3014, g3415, g3516, g3617, rfl, ?_, ?_⟩ dX8_rule_197
                · rw [mrl, pick_f r2, pick_f r3, pick_f r4, pick_f r5, pick_f r6, pick_t (fun z => kc66 (z.1 kc55))]
                  rfl
                · trivial
              · skip
                have kc66 := b1_n.mp c66
                refine lv_iload hx hb dX8_rule_179 (lv_at hl 2 rfl) ?_
                refine lv_iconst (v := 3) hx hb dX8_rule_181 (by decide) ?_
                refine lv_icmp_lt (tgt := 198) hx hb dX8_rule_182 (by decide) (fun c67 => ?_) (fun c67 => absurd ((nI_ltI (a := (pq q 17)) (b := 3) (by omega) (by omega)).mpr (by omega)) c67)
                have r7 : ¬ ¬ mT7 ci am al pq t q := fun z => z ⟨fun _ => kc66, fun z => absurd (show pq q 17 < 3 by omega) z⟩
                refine lv_iload hx hb dX8_rule_198 (lv_at hl 2 rfl) ?_
                refine lv_iconst (v := 2) hx hb dX8_rule_200 (by decide) ?_
                refine lv_icmp_ne (tgt := 231) hx hb dX8_rule_201 (by decide) (fun c68 => absurd c68 (fun h9 => h9 ((nI_eq (a := (pq q 17)) (b := 2) (by omega) (by omega)).mpr (kc55)))) (fun c68 => ?_)
                refine lv_aload_n hx hb dX8_rule_204 rfl (lv_at hl 3 rfl) ?_
                refine xgt TX8_27 (v := .ref (ad 27)) hx hb hts hiX8 hown hev.1 hP 0 rfl (by decide) hf84 rfl dX8_rule_205 ?_
                refine lv_iconst (v := 2) hx hb dX8_rule_208 (by decide) ?_
                refine xiald (k := 2) hx hb hev.1 (xro hR0 hap hS) 24 1 rfl rfl (by omega) (by decide) dX8_rule_209 ?_
                cases o69 : ci 2 with
                | none =>
                  refine xtop (y := (-1)) ((hnw _ (by omega)).trans (nw_n o69)) ?_
                  refine lv_iconst (v := (-1)) hx hb dX8_rule_210 (by decide) ?_
                  refine lv_icmp_eq (tgt := 231) hx hb dX8_rule_211 (by decide) (fun c70 => ?_) (fun c70 => absurd (by decide) c70)
                  refine lv_iconst (v := 0) hx hb dX8_rule_231 (by decide) ?_
                  refine xri hx hb hr hlocks hP hD hS ⟨m212, g2913, g3014, g3415, g3516, g3617, rfl, ?_, ?_⟩ dX8_rule_232
                  · rw [mrl, pick_f r2, pick_f r3, pick_f r4, pick_f r5, pick_f r6, pick_f r7, pick_f (fun z => z (fun _ k9 h9 => by rw [o69] at h9; cases h9))]
                    rfl
                  · trivial
                | some k2 =>
                  have hkk2 : k2 < rn := hci _ _ o69
                  refine xtop (y := nI k2) ((hnw _ (by omega)).trans (nw_s o69)) ?_
                  obtain ⟨h10B, h12B, h15B, h18B, h22B, h24B, hb10B, hb12B, hb15B, hb18B, hb22B, hb24B⟩ := hmk k2 (hkk2)
                  refine lv_iconst (v := (-1)) hx hb dX8_rule_210 (by decide) ?_
                  refine lv_icmp_eq (tgt := 231) hx hb dX8_rule_211 (by decide) (fun c71 => absurd c71 (nI_ne1 (by omega))) (fun c71 => ?_)
                  refine lv_aload_n hx hb dX8_rule_214 rfl (lv_at hl 3 rfl) ?_
                  refine lv_aload_n hx hb dX8_rule_215 rfl (lv_at hl 3 rfl) ?_
                  refine xgt TX8_27 (v := .ref (ad 27)) hx hb hts hiX8 hown hev.1 hP 0 rfl (by decide) hf84 rfl dX8_rule_216 ?_
                  refine lv_iconst (v := 2) hx hb dX8_rule_219 (by decide) ?_
                  refine xiald (k := 2) hx hb hev.1 (xro hR0 hap hS) 24 1 rfl rfl (by omega) (by decide) dX8_rule_220 ?_
                  refine xtop (y := nI k2) ((hnw _ (by omega)).trans (nw_s o69)) ?_
                  refine lv_iload_n hx hb dX8_rule_221 rfl (lv_at hl 4 rfl) ?_
                  have hP := hP.sub (ws' := [] ++ [(mo, .inr (9, mOb ad th (nI kn) (nI rn) (nI m212) (nI dp))), (ad 29, aI E 256 g2913), (ad 30, aI E 32 g3014), (ad 34, aI E 16 g3415), (ad 35, aI E 8 g3516), (ad 36, aI E 8 g3617)]) [0, 1, 2, 3, 4, 5] rfl
                  have hD := hD.sub (ws' := [] ++ [(mo, .inr (9, mOb ad th (nI kn) (nI rn) (nI m212) (nI dp))), (ad 29, aI E 256 g2913), (ad 30, aI E 32 g3014), (ad 34, aI E 16 g3415), (ad 35, aI E 8 g3516), (ad 36, aI E 8 g3617)]) [0, 1, 2, 3, 4, 5] (by decide) rfl
                  refine xci (va_runV (As := [.int (nI k2), .int (nI q)]) (rest := []) ⟨hx, hb, hml, hown, hts⟩ (kX8_goesOn l E mo ad th kn rn m212 dp am al pq k2 q (by first | assumption | omega) (by first | assumption | omega) (by first | assumption | omega) (by first | assumption | omega) H.size) (cwV 2 hts gX8_rule_X8_goesOn rfl rfl rfl (by decide +kernel) ⟨Nat.le_of_ble_eq_true rfl, Nat.le_of_ble_eq_true rfl⟩) ⟨CP.blind, (va_recv hev.1 hP (ci := 9) (q0 := 0) rfl rfl), (xpre hev hz hA hP hD hS hR0 hap [0, 16, 17, 18] rfl)⟩ rfl rfl hl.1 rfl (lv_room (Nat.le_of_ble_eq_true rfl)) dX8_rule_222 ⟨Nat.le_of_ble_eq_true rfl, Nat.le_of_ble_eq_true rfl⟩) hP hD hS hA (fun r72 w73 H locs h74 hP hD hS => ?_)
                  obtain ⟨rfl, rfl, h74⟩ := h74
                  try dsimp only at h74
                  have hP : va_P E.1 vwCl [(mo, .inr (9, mOb ad th (nI kn) (nI rn) (nI m212) (nI dp))), (ad 29, aI E 256 g2913), (ad 30, aI E 32 g3014), (ad 34, aI E 16 g3415), (ad 35, aI E 8 g3516), (ad 36, aI E 8 g3617)] H := hP
                  have hD : va_D A [(mo, .inr (9, mOb ad th (nI kn) (nI rn) (nI m212) (nI dp))), (ad 29, aI E 256 g2913), (ad 30, aI E 32 g3014), (ad 34, aI E 16 g3415), (ad 35, aI E 8 g3516), (ad 36, aI E 8 g3617)] := hD
                  refine lv_if_ne (tgt := 231) hx hb dX8_rule_225 (by decide) (fun c75 => ?_) (fun c75 => ?_)
                  · skip
                    have kc75 := b1_n.mp c75
                    refine lv_iconst (v := 0) hx hb dX8_rule_231 (by decide) ?_
                    refine xri hx hb hr hlocks hP hD hS ⟨m212, g2913, g3014, g3415, g3516, g3617, rfl, ?_, ?_⟩ dX8_rule_232
                    · rw [mrl, pick_f r2, pick_f r3, pick_f r4, pick_f r5, pick_f r6, pick_f r7, pick_f (fun z => z (fun _ k9 h9 => by rw [o69] at h9; cases h9; exact kc75))]
                      rfl
                    · trivial
                  · skip
                    have kc75 := b1_0.mp c75
                    refine lv_bipush (v := 8) hx hb dX8_rule_228 (by decide) ?_
                    refine xri hx hb hr hlocks hP hD hS ⟨m212, g2913, g3014, g3415, g3516, g3617, rfl, ?_, ?_⟩ dX8_rule_230
                    · rw [mrl, pick_f r2, pick_f r3, pick_f r4, pick_f r5, pick_f r6, pick_f r7, pick_t (fun z => kc75 (z kc55 k2 o69))]
                      rfl
                    · trivial
          · skip
            have kc54 := b1_0.mp c54
            refine lv_bipush (v := 6) hx hb dX8_rule_160 (by decide) ?_
            refine xri hx hb hr hlocks hP hD hS ⟨m212, g2913, g3014, g3415, g3516, g3617, rfl, ?_, ?_⟩ dX8_rule_162
            · rw [mrl, pick_f r2, pick_f r3, pick_f r4, pick_f r5, pick_t (Classical.not_not.mp kc54)]
              rfl
            · trivial
      · skip
        have kc18 := b1_0.mp c18
        refine lv_iconst (v := 4) hx hb dX8_rule_80 (by decide) ?_
        refine xri hx hb hr hlocks hP hD hS ⟨m212, g2913, g3014, g3415, g3516, g3617, rfl, ?_, ?_⟩ dX8_rule_81
        · rw [mrl, pick_f r2, pick_f r3, pick_t ⟨kc6, kc18⟩]
          rfl
        · trivial
    · skip
      have kc6 : ¬ (pq q 17) = 0 := fun h9 => c6 ((nI_eq (a := (pq q 17)) (b := 0) (by omega) (by omega)).mpr h9)
      refine lv_aload_n hx hb dX8_rule_31 rfl (lv_at hl 2 rfl) ?_
      refine lv_iload hx hb dX8_rule_32 (lv_at hl 0 rfl) ?_
      refine lv_lload_n hx hb dX8_rule_34 rfl (lv_at hl 4 rfl) ?_
      have hP := hP.sub (ws' := [] ++ [(mo, .inr (9, mOb ad th (nI kn) (nI rn) (nI mn) (nI dp))), (ad 29, aI E 256 a29), (ad 30, aI E 32 a30), (ad 34, aI E 16 a34), (ad 35, aI E 8 a35), (ad 36, aI E 8 a36)]) [0, 1, 2, 3, 4, 5] rfl
      have hD := hD.sub (ws' := [] ++ [(mo, .inr (9, mOb ad th (nI kn) (nI rn) (nI mn) (nI dp))), (ad 29, aI E 256 a29), (ad 30, aI E 32 a30), (ad 34, aI E 16 a34), (ad 35, aI E 8 a35), (ad 36, aI E 8 a36)]) [0, 1, 2, 3, 4, 5] (by decide) rfl
      refine xci (va_runV (As := [.int (-1), .long t]) (rest := []) ⟨hx, hb, hml, hown, hts⟩ (kX8_isAliveN l E mo ad th kn rn mn dp t  H.size) (cwV 2 hts gX8_rule_X8_isAlive rfl rfl rfl (by decide +kernel) ⟨Nat.le_of_ble_eq_true rfl, Nat.le_of_ble_eq_true rfl⟩) ⟨CP.blind, (va_recv hev.1 hP (ci := 9) (q0 := 0) rfl rfl), (xpre hev hz hA hP hD hS hR0 hap [0] rfl)⟩ rfl rfl hl.1 rfl (lv_room (Nat.le_of_ble_eq_true rfl)) dX8_rule_35 ⟨Nat.le_of_ble_eq_true rfl, Nat.le_of_ble_eq_true rfl⟩) hP hD hS hA (fun r76 w77 H locs h78 hP hD hS => ?_)
      obtain ⟨rfl, rfl, h78⟩ := h78
      try dsimp only at h78
      have hP : va_P E.1 vwCl [(mo, .inr (9, mOb ad th (nI kn) (nI rn) (nI mn) (nI dp))), (ad 29, aI E 256 a29), (ad 30, aI E 32 a30), (ad 34, aI E 16 a34), (ad 35, aI E 8 a35), (ad 36, aI E 8 a36)] H := hP
      have hD : va_D A [(mo, .inr (9, mOb ad th (nI kn) (nI rn) (nI mn) (nI dp))), (ad 29, aI E 256 a29), (ad 30, aI E 32 a30), (ad 34, aI E 16 a34), (ad 35, aI E 8 a35), (ad 36, aI E 8 a36)] := hD
      refine lv_if_ne (tgt := 43) hx hb dX8_rule_38 (by decide) (fun c79 => absurd c79 (by decide)) (fun c79 => ?_)
      refine lv_iconst (v := 2) hx hb dX8_rule_41 (by decide) ?_
      refine xri hx hb hr hlocks hP hD hS ⟨mn, a29, a30, a34, a35, a36, rfl, ?_, ?_⟩ dX8_rule_42
      · rw [mrl, pick_t ⟨kc6, fun ⟨k9, h9, g9⟩ => by rw [o5] at h9; cases h9⟩]
        rfl
      · trivial
  | some k0 =>
    have hkk0 : k0 < rn := hci _ _ o5
    refine xtop (y := nI k0) ((hnw _ (by omega)).trans (nw_s o5)) ?_
    obtain ⟨h10A, h12A, h15A, h18A, h22A, h24A, hb10A, hb12A, hb15A, hb18A, hb22A, hb24A⟩ := hmk k0 (hkk0)
    refine lv_istore (lv' := [(5, .int (nI k0)), (4, .int (nI (pq q 17))), (0, .ref mo), (1, .int (nI q)), (2, .long t)]) hx hb dX8_rule_24 hl (by decide) rfl (fun ls hl => ?_)
    refine lv_iload hx hb dX8_rule_26 (lv_at hl 1 rfl) ?_
    refine lv_if_eq (tgt := 43) hx hb dX8_rule_28 (by decide) (fun c80 => ?_) (fun c80 => ?_)
    · skip
      have kc80 : (pq q 17) = 0 := (nI_eq (a := (pq q 17)) (b := 0) (by omega) (by omega)).mp c80
      have r2 : ¬ (¬ pq q 17 = 0 ∧ ¬ mAlv ci al t) := fun z => z.1 kc80
      refine lv_iload hx hb dX8_rule_43 (lv_at hl 0 rfl) ?_
      refine lv_iconst (v := (-1)) hx hb dX8_rule_45 (by decide) ?_
      refine lv_icmp_eq (tgt := 64) hx hb dX8_rule_46 (by decide) (fun c81 => absurd c81 (nI_ne1 (by omega))) (fun c81 => ?_)
      refine lv_aload_n hx hb dX8_rule_49 rfl (lv_at hl 2 rfl) ?_
      refine lv_iload_n hx hb dX8_rule_50 rfl (lv_at hl 3 rfl) ?_
      refine lv_iload hx hb dX8_rule_51 (lv_at hl 1 rfl) ?_
      refine lv_iload hx hb dX8_rule_53 (lv_at hl 0 rfl) ?_
      refine lv_lload_n hx hb dX8_rule_55 rfl (lv_at hl 4 rfl) ?_
      have hP := hP.sub (ws' := [(mo, .inr (9, mOb ad th (nI kn) (nI rn) (nI mn) (nI dp))), (ad 29, aI E 256 a29), (ad 30, aI E 32 a30), (ad 34, aI E 16 a34), (ad 35, aI E 8 a35), (ad 36, aI E 8 a36)] ++ []) [0, 1, 2, 3, 4, 5] rfl
      have hD := hD.sub (ws' := [(mo, .inr (9, mOb ad th (nI kn) (nI rn) (nI mn) (nI dp))), (ad 29, aI E 256 a29), (ad 30, aI E 32 a30), (ad 34, aI E 16 a34), (ad 35, aI E 8 a35), (ad 36, aI E 8 a36)] ++ []) [0, 1, 2, 3, 4, 5] (by decide) rfl
      refine xci (va_runV (As := [.int (nI q), .int (nI (pq q 17)), .int (nI k0), .long t]) (rest := []) ⟨hx, hb, hml, hown, hts⟩ (kX8_hasQuorum l E mo ad th kn rn mn dp a29 a30 a34 a35 a36 (al 3) (al 14) (am 32) (am 33) (am 8) (am 9) (am 10) (am 11) (am 12) (am 13) (am 15) (am 16) (am 17) (am 18) (am 19) (am 20) (am 21) (am 22) (am 23) (am 24) (am 25) (al 26) (al 4) (am 5) q (pq q 17) (pq q 12) (pq q 15) (pq q 16) (pq q 13) (pq q 14) (pq q 17) k0 t (by first | assumption | omega) (by first | assumption | omega) (by first | assumption | omega) (by first | assumption | omega) (by first | assumption | omega) (by first | assumption | omega) (by first | assumption | omega) (by first | assumption | omega) (by first | assumption | omega) (by first | assumption | omega) (by first | assumption | omega) (by first | assumption | omega) (by first | assumption | omega) (by first | assumption | omega) (by first | assumption | omega) (by first | assumption | omega) (by first | assumption | omega) (by first | assumption | omega) H.size) (cwV 4 hts gX8_rule_X8_hasQuorum rfl rfl rfl (by decide +kernel) ⟨Nat.le_of_ble_eq_true rfl, Nat.le_of_ble_eq_true rfl⟩) ⟨CP.blind, (va_recv hev.1 hP.left (ci := 9) (q0 := 0) rfl rfl), (xpre hev hz hA hP hD hS hR0 hap [0, 1, 2, 3, 4, 5, 6, 7, 8, 9, 10, 11, 12, 13, 14, 15, 16, 17, 18, 19, 20, 21, 22, 23] rfl)⟩ rfl rfl hl.1 rfl (lv_room (Nat.le_of_ble_eq_true rfl)) dX8_rule_56 ⟨Nat.le_of_ble_eq_true rfl, Nat.le_of_ble_eq_true rfl⟩) hP hD hS hA (fun r82 w83 H locs h84 hP hD hS => ?_)
      obtain ⟨m285, g2986, g3087, g3488, g3589, g3690, rfl, rfl, h84⟩ := h84
      try dsimp only at h84
      have hP : va_P E.1 vwCl [(mo, .inr (9, mOb ad th (nI kn) (nI rn) (nI m285) (nI dp))), (ad 29, aI E 256 g2986), (ad 30, aI E 32 g3087), (ad 34, aI E 16 g3488), (ad 35, aI E 8 g3589), (ad 36, aI E 8 g3690)] H := hP
      have hD : va_D A [(mo, .inr (9, mOb ad th (nI kn) (nI rn) (nI m285) (nI dp))), (ad 29, aI E 256 g2986), (ad 30, aI E 32 g3087), (ad 34, aI E 16 g3488), (ad 35, aI E 8 g3589), (ad 36, aI E 8 g3690)] := hD
      refine xtop (y := b1 (mQm kn am al pq t q (pq q 17) k0)) (rfl) ?_
      refine lv_if_ne (tgt := 64) hx hb dX8_rule_59 (by decide) (fun c91 => ?_) (fun c91 => ?_)
      · skip
        have kc91 := b1_n.mp c91
        have r3 : ¬ ¬ ∀ k, ci 0 = some k → mQm kn am al pq t q (pq q 17) k := fun z => z (fun k9 h9 => by rw [o5] at h9; cases h9; exact kc91)
        refine lv_iload hx hb dX8_rule_64 (lv_at hl 1 rfl) ?_
        refine lv_if_ne (tgt := 82) hx hb dX8_rule_66 (by decide) (fun c92 => absurd c92 (fun h9 => h9 ((nI_eq (a := (pq q 17)) (b := 0) (by omega) (by omega)).mpr (kc80)))) (fun c92 => ?_)
        refine lv_aload_n hx hb dX8_rule_69 rfl (lv_at hl 2 rfl) ?_
        refine lv_iload_n hx hb dX8_rule_70 rfl (lv_at hl 3 rfl) ?_
        refine lv_iconst (v := 0) hx hb dX8_rule_71 (by decide) ?_
        refine lv_iload_n hx hb dX8_rule_72 rfl (lv_at hl 3 rfl) ?_
        refine lv_lload_n hx hb dX8_rule_73 rfl (lv_at hl 4 rfl) ?_
        have hP := hP.sub (ws' := [(mo, .inr (9, mOb ad th (nI kn) (nI rn) (nI m285) (nI dp))), (ad 29, aI E 256 g2986), (ad 30, aI E 32 g3087), (ad 34, aI E 16 g3488), (ad 35, aI E 8 g3589), (ad 36, aI E 8 g3690)] ++ []) [0, 1, 2, 3, 4, 5] rfl
        have hD := hD.sub (ws' := [(mo, .inr (9, mOb ad th (nI kn) (nI rn) (nI m285) (nI dp))), (ad 29, aI E 256 g2986), (ad 30, aI E 32 g3087), (ad 34, aI E 16 g3488), (ad 35, aI E 8 g3589), (ad 36, aI E 8 g3690)] ++ []) [0, 1, 2, 3, 4, 5] (by decide) rfl
        refine xci (va_runV (As := [.int (nI q), .int 0, .int (nI q), .long t]) (rest := []) ⟨hx, hb, hml, hown, hts⟩ (kX8_hasQuorum l E mo ad th kn rn m285 dp g2986 g3087 g3488 g3589 g3690 (al 3) (al 14) (am 32) (am 33) (am 8) (am 9) (am 10) (am 11) (am 12) (am 13) (am 15) (am 16) (am 17) (am 18) (am 19) (am 20) (am 21) (am 22) (am 23) (am 24) (am 25) (al 26) (al 4) (am 5) q (pq q 17) (pq q 12) (pq q 15) (pq q 16) (pq q 13) (pq q 14) 0 q t (by first | assumption | omega) (by first | assumption | omega) (by first | assumption | omega) (by first | assumption | omega) (by first | assumption | omega) (by first | assumption | omega) (by first | assumption | omega) (by first | assumption | omega) (by first | assumption | omega) (by first | assumption | omega) (by first | assumption | omega) (by first | assumption | omega) (by first | assumption | omega) (by first | assumption | omega) (by first | assumption | omega) (by first | assumption | omega) (by first | assumption | omega) (by first | assumption | omega) H.size) (cwV 4 hts gX8_rule_X8_hasQuorum rfl rfl rfl (by decide +kernel) ⟨Nat.le_of_ble_eq_true rfl, Nat.le_of_ble_eq_true rfl⟩) ⟨CP.blind, (va_recv hev.1 hP.left (ci := 9) (q0 := 0) rfl rfl), (xpre hev hz hA hP hD hS hR0 hap [0, 1, 2, 3, 4, 5, 6, 7, 8, 9, 10, 11, 12, 13, 14, 15, 16, 17, 18, 19, 20, 21, 22, 23] rfl)⟩ rfl rfl hl.1 rfl (lv_room (Nat.le_of_ble_eq_true rfl)) dX8_rule_74 ⟨Nat.le_of_ble_eq_true rfl, Nat.le_of_ble_eq_true rfl⟩) hP hD hS hA (fun r93 w94 H locs h95 hP hD hS => ?_)
        obtain ⟨m296, g2997, g3098, g3499, g35100, g36101, rfl, rfl, h95⟩ := h95
        try dsimp only at h95
        have hP : va_P E.1 vwCl [(mo, .inr (9, mOb ad th (nI kn) (nI rn) (nI m296) (nI dp))), (ad 29, aI E 256 g2997), (ad 30, aI E 32 g3098), (ad 34, aI E 16 g3499), (ad 35, aI E 8 g35100), (ad 36, aI E 8 g36101)] H := hP
        have hD : va_D A [(mo, .inr (9, mOb ad th (nI kn) (nI rn) (nI m296) (nI dp))), (ad 29, aI E 256 g2997), (ad 30, aI E 32 g3098), (ad 34, aI E 16 g3499), (ad 35, aI E 8 g35100), (ad 36, aI E 8 g36101)] := hD
        refine xtop (y := b1 (mQm kn am al pq t q 0 q)) (rfl) ?_
        refine lv_if_ne (tgt := 82) hx hb dX8_rule_77 (by decide) (fun c102 => ?_) (fun c102 => ?_)
        · skip
          have kc102 := b1_n.mp c102
          have r4 : ¬ (pq q 17 = 0 ∧ ¬ mQm kn am al pq t q 0 q) := fun z => z.2 kc102
          refine lv_aload_n hx hb dX8_rule_82 rfl (lv_at hl 2 rfl) ?_
          refine xgt TX8_27 (v := .ref (ad 27)) hx hb hts hiX8 hown hev.1 hP 0 rfl (by decide) hf84 rfl dX8_rule_83 ?_
          refine lv_iload hx hb dX8_rule_86 (lv_at hl 1 rfl) ?_
          refine xiald (k := (pq q 17)) hx hb hev.1 (xro hR0 hap hS) 24 1 rfl rfl (by omega) (by decide) dX8_rule_88 ?_
          cases o103 : ci (pq q 17) with
          | none =>
            refine xtop (y := (-1)) ((hnw _ (by omega)).trans (nw_n o103)) ?_
            refine lv_iconst (v := (-1)) hx hb dX8_rule_89 (by decide) ?_
            refine lv_icmp_ne (tgt := 97) hx hb dX8_rule_90 (by decide) (fun c104 => absurd c104 (by decide)) (fun c104 => ?_)
            refine lv_iconst (v := 0) hx hb dX8_rule_93 (by decide) ?_
            refine lv_goto (tgt := 109) hx hb dX8_rule_94 (by decide) ?_
            refine xtop (y := mWas ci am (pq q 17)) ((mWas_n o103).symm) ?_
            refine lv_istore (lv' := [(6, .int (mWas ci am (pq q 17))), (5, .int (nI k0)), (4, .int (nI (pq q 17))), (0, .ref mo), (1, .int (nI q)), (2, .long t)]) hx hb dX8_rule_109 hl (by decide) rfl (fun ls hl => ?_)
            refine lv_iload hx hb dX8_rule_111 (lv_at hl 2 rfl) ?_
            refine lv_if_ne (tgt := 138) hx hb dX8_rule_113 (by decide) (fun c105 => absurd c105 (fun h9 => h9 ((nI_eq (a := (pq q 17)) (b := 0) (by omega) (by omega)).mpr (kc80)))) (fun c105 => ?_)
            refine lv_iload hx hb dX8_rule_116 (lv_at hl 1 rfl) ?_
            refine lv_iconst (v := (-1)) hx hb dX8_rule_118 (by decide) ?_
            refine lv_icmp_eq (tgt := 151) hx hb dX8_rule_119 (by decide) (fun c106 => absurd c106 (nI_ne1 (by omega))) (fun c106 => ?_)
            refine lv_aload_n hx hb dX8_rule_122 rfl (lv_at hl 3 rfl) ?_
            refine xgt TX8_11 (v := .ref (ad 11)) hx hb hts hiX8 hown hev.1 hP 0 rfl (by decide) hf36 rfl dX8_rule_123 ?_
            refine lv_iload_n hx hb dX8_rule_126 rfl (lv_at hl 4 rfl) ?_
            refine xiald (k := (q)) hx hb hev.1 (xro hR0 hap hS) 7 1 rfl rfl (by omega) (by decide) dX8_rule_127 ?_
            refine lv_iload hx hb dX8_rule_128 (lv_at hl 0 rfl) ?_
            refine lv_iconst (v := 1) hx hb dX8_rule_130 (by decide) ?_
            refine lv_iadd hx hb dX8_rule_131 ?_
            refine lv_icmp_eq (tgt := 151) hx hb dX8_rule_132 (by decide) (fun c107 => ?_) (fun c107 => ?_)
            · skip
              have r5 : ¬ ¬ mFol ci am pq q := fun z => z ⟨fun _ k9 h9 => (by rw [o5] at h9; cases h9; exact c107), fun z => absurd kc80 z⟩
              refine lv_aload_n hx hb dX8_rule_151 rfl (lv_at hl 3 rfl) ?_
              refine lv_iload_n hx hb dX8_rule_152 rfl (lv_at hl 4 rfl) ?_
              refine lv_lload_n hx hb dX8_rule_153 rfl (lv_at hl 5 rfl) ?_
              have hP := hP.sub (ws' := [] ++ [(mo, .inr (9, mOb ad th (nI kn) (nI rn) (nI m296) (nI dp))), (ad 29, aI E 256 g2997), (ad 30, aI E 32 g3098), (ad 34, aI E 16 g3499), (ad 35, aI E 8 g35100), (ad 36, aI E 8 g36101)]) [0, 1, 2, 3, 4, 5] rfl
              have hD := hD.sub (ws' := [] ++ [(mo, .inr (9, mOb ad th (nI kn) (nI rn) (nI m296) (nI dp))), (ad 29, aI E 256 g2997), (ad 30, aI E 32 g3098), (ad 34, aI E 16 g3499), (ad 35, aI E 8 g35100), (ad 36, aI E 8 g36101)]) [0, 1, 2, 3, 4, 5] (by decide) rfl
              refine xci (va_runV (As := [.int (nI q), .long t]) (rest := []) ⟨hx, hb, hml, hown, hts⟩ (kX8_isAlive l E mo ad th kn rn m296 dp (al 14) q t (by first | assumption | omega) H.size) (cwV 2 hts gX8_rule_X8_isAlive rfl rfl rfl (by decide +kernel) ⟨Nat.le_of_ble_eq_true rfl, Nat.le_of_ble_eq_true rfl⟩) ⟨CP.blind, (va_recv hev.1 hP (ci := 9) (q0 := 0) rfl rfl), (xpre hev hz hA hP hD hS hR0 hap [0, 7] rfl)⟩ rfl rfl hl.1 rfl (lv_room (Nat.le_of_ble_eq_true rfl)) dX8_rule_154 ⟨Nat.le_of_ble_eq_true rfl, Nat.le_of_ble_eq_true rfl⟩) hP hD hS hA (fun r108 w109 H locs h110 hP hD hS => ?_)
              obtain ⟨rfl, rfl, h110⟩ := h110
              try dsimp only at h110
              have hP : va_P E.1 vwCl [(mo, .inr (9, mOb ad th (nI kn) (nI rn) (nI m296) (nI dp))), (ad 29, aI E 256 g2997), (ad 30, aI E 32 g3098), (ad 34, aI E 16 g3499), (ad 35, aI E 8 g35100), (ad 36, aI E 8 g36101)] H := hP
              have hD : va_D A [(mo, .inr (9, mOb ad th (nI kn) (nI rn) (nI m296) (nI dp))), (ad 29, aI E 256 g2997), (ad 30, aI E 32 g3098), (ad 34, aI E 16 g3499), (ad 35, aI E 8 g35100), (ad 36, aI E 8 g36101)] := hD
              refine lv_if_ne (tgt := 163) hx hb dX8_rule_157 (by decide) (fun c111 => ?_) (fun c111 => ?_)
              · skip
                have kc111 := b1_n.mp c111
                have r6 := kc111
                refine lv_iload hx hb dX8_rule_163 (lv_at hl 2 rfl) ?_
                refine lv_iconst (v := 2) hx hb dX8_rule_165 (by decide) ?_
                refine lv_icmp_ne (tgt := 179) hx hb dX8_rule_166 (by decide) (fun c112 => ?_) (fun c112 => ?_)
                · skip
                  have kc112 : ¬ (pq q 17) = 2 := fun h9 => c112 ((nI_eq (a := (pq q 17)) (b := 2) (by omega) (by omega)).mpr h9)
                  refine lv_iload hx hb dX8_rule_179 (lv_at hl 2 rfl) ?_
                  refine lv_iconst (v := 3) hx hb dX8_rule_181 (by decide) ?_
                  refine lv_icmp_lt (tgt := 198) hx hb dX8_rule_182 (by decide) (fun c113 => ?_) (fun c113 => ?_)
                  · skip
                    have kc113 : (pq q 17) < 3 := (nI_ltI (a := (pq q 17)) (b := 3) (by omega) (by omega)).mp c113
                    have r7 : ¬ ¬ mT7 ci am al pq t q := fun z => z ⟨fun z => absurd z kc112, fun z => absurd kc113 z⟩
                    refine lv_iload hx hb dX8_rule_198 (lv_at hl 2 rfl) ?_
                    refine lv_iconst (v := 2) hx hb dX8_rule_200 (by decide) ?_
                    refine lv_icmp_ne (tgt := 231) hx hb dX8_rule_201 (by decide) (fun c114 => ?_) (fun c114 => absurd c114 (fun h9 => absurd ((nI_eq (a := (pq q 17)) (b := 2) (by omega) (by omega)).mp h9) (kc112)))
                    refine lv_iconst (v := 0) hx hb dX8_rule_231 (by decide) ?_
                    refine xri hx hb hr hlocks hP hD hS ⟨m296, g2997, g3098, g3499, g35100, g36101, rfl, ?_, ?_⟩ dX8_rule_232
                    · rw [mrl, pick_f r2, pick_f r3, pick_f r4, pick_f r5, pick_f r6, pick_f r7, pick_f (fun z => z (fun z9 => absurd z9 kc112))]
                      rfl
                    · trivial
                  · skip
                    have kc113 : ¬ (pq q 17) < 3 := fun h9 => c113 ((nI_ltI (a := (pq q 17)) (b := 3) (by omega) (by omega)).mpr h9)
                    refine lv_aload_n hx hb dX8_rule_185 rfl (lv_at hl 3 rfl) ?_
                    refine lv_iconst (v := 2) hx hb dX8_rule_186 (by decide) ?_
                    refine lv_iload_n hx hb dX8_rule_187 rfl (lv_at hl 4 rfl) ?_
                    refine lv_lload_n hx hb dX8_rule_188 rfl (lv_at hl 5 rfl) ?_
                    have hP := hP.sub (ws' := [] ++ [(mo, .inr (9, mOb ad th (nI kn) (nI rn) (nI m296) (nI dp))), (ad 29, aI E 256 g2997), (ad 30, aI E 32 g3098), (ad 34, aI E 16 g3499), (ad 35, aI E 8 g35100), (ad 36, aI E 8 g36101)]) [0, 1, 2, 3, 4, 5] rfl
                    have hD := hD.sub (ws' := [] ++ [(mo, .inr (9, mOb ad th (nI kn) (nI rn) (nI m296) (nI dp))), (ad 29, aI E 256 g2997), (ad 30, aI E 32 g3098), (ad 34, aI E 16 g3499), (ad 35, aI E 8 g35100), (ad 36, aI E 8 g36101)]) [0, 1, 2, 3, 4, 5] (by decide) rfl
                    refine xci (va_runV (As := [.int 2, .int (nI q), .long t]) (rest := []) ⟨hx, hb, hml, hown, hts⟩ (kX8_isTold l E mo ad th kn rn m296 dp am al pq ci 2 q t (by first | assumption | omega) (by first | assumption | omega) (by first | assumption | omega) (by first | assumption | omega) (by first | assumption | omega) (by first | assumption | omega) H.size) (cwV 3 hts gX8_rule_X8_isTold rfl rfl rfl (by decide +kernel) ⟨Nat.le_of_ble_eq_true rfl, Nat.le_of_ble_eq_true rfl⟩) ⟨CP.blind, (va_recv hev.1 hP (ci := 9) (q0 := 0) rfl rfl), (xpre hev hz hA hP hD hS hR0 hap [0, 30, 7, 16, 17, 18, 12, 13] rfl)⟩ rfl rfl hl.1 rfl (lv_room (Nat.le_of_ble_eq_true rfl)) dX8_rule_189 ⟨Nat.le_of_ble_eq_true rfl, Nat.le_of_ble_eq_true rfl⟩) hP hD hS hA (fun r115 w116 H locs h117 hP hD hS => ?_)
                    obtain ⟨rfl, rfl, h117⟩ := h117
                    try dsimp only at h117
                    have hP : va_P E.1 vwCl [(mo, .inr (9, mOb ad th (nI kn) (nI rn) (nI m296) (nI dp))), (ad 29, aI E 256 g2997), (ad 30, aI E 32 g3098), (ad 34, aI E 16 g3499), (ad 35, aI E 8 g35100), (ad 36, aI E 8 g36101)] H := hP
                    have hD : va_D A [(mo, .inr (9, mOb ad th (nI kn) (nI rn) (nI m296) (nI dp))), (ad 29, aI E 256 g2997), (ad 30, aI E 32 g3098), (ad 34, aI E 16 g3499), (ad 35, aI E 8 g35100), (ad 36, aI E 8 g36101)] := hD
                    refine lv_if_ne (tgt := 198) hx hb dX8_rule_192 (by decide) (fun c118 => ?_) (fun c118 => ?_)
                    · skip
                      have kc118 := b1_n.mp c118
                      have r7 : ¬ ¬ mT7 ci am al pq t q := fun z => z ⟨fun z => absurd z kc112, fun _ => kc118⟩
                      refine lv_iload hx hb dX8_rule_198 (lv_at hl 2 rfl) ?_
                      refine lv_iconst (v := 2) hx hb dX8_rule_200 (by decide) ?_
                      refine lv_icmp_ne (tgt := 231) hx hb dX8_rule_201 (by decide) (fun c119 => ?_) (fun c119 => absurd c119 (fun h9 => absurd ((nI_eq (a := (pq q 17)) (b := 2) (by omega) (by omega)).mp h9) (kc112)))
                      refine lv_iconst (v := 0) hx hb dX8_rule_231 (by decide) ?_
                      refine xri hx hb hr hlocks hP hD hS ⟨m296, g2997, g3098, g3499, g35100, g36101, rfl, ?_, ?_⟩ dX8_rule_232
                      · rw [mrl, pick_f r2, pick_f r3, pick_f r4, pick_f r5, pick_f r6, pick_f r7, pick_f (fun z => z (fun z9 => absurd z9 kc112))]
                        rfl
                      · trivial
                    · skip
                      have kc118 := b1_0.mp c118
                      refine lv_bipush (v := 7) hx hb dX8_rule_195 (by decide) ?_
                      refine xri hx hb hr hlocks hP hD hS ⟨m296, g2997, g3098, g3499, g35100, g36101, rfl, ?_, ?_⟩ dX8_rule_197
                      · rw [mrl, pick_f r2, pick_f r3, pick_f r4, pick_f r5, pick_f r6, pick_t (fun z => kc118 (z.2 kc113))]
                        rfl
                      · trivial
                · skip
                  have kc112 : (pq q 17) = 2 := (nI_eq (a := (pq q 17)) (b := 2) (by omega) (by omega)).mp c112
                  refine lv_aload_n hx hb dX8_rule_169 rfl (lv_at hl 3 rfl) ?_
                  refine lv_iconst (v := 1) hx hb dX8_rule_170 (by decide) ?_
                  refine lv_iload_n hx hb dX8_rule_171 rfl (lv_at hl 4 rfl) ?_
                  refine lv_lload_n hx hb dX8_rule_172 rfl (lv_at hl 5 rfl) ?_
                  have hP := hP.sub (ws' := [] ++ [(mo, .inr (9, mOb ad th (nI kn) (nI rn) (nI m296) (nI dp))), (ad 29, aI E 256 g2997), (ad 30, aI E 32 g3098), (ad 34, aI E 16 g3499), (ad 35, aI E 8 g35100), (ad 36, aI E 8 g36101)]) [0, 1, 2, 3, 4, 5] rfl
                  have hD := hD.sub (ws' := [] ++ [(mo, .inr (9, mOb ad th (nI kn) (nI rn) (nI m296) (nI dp))), (ad 29, aI E 256 g2997), (ad 30, aI E 32 g3098), (ad 34, aI E 16 g3499), (ad 35, aI E 8 g35100), (ad 36, aI E 8 g36101)]) [0, 1, 2, 3, 4, 5] (by decide) rfl
                  refine xci (va_runV (As := [.int 1, .int (nI q), .long t]) (rest := []) ⟨hx, hb, hml, hown, hts⟩ (kX8_isTold l E mo ad th kn rn m296 dp am al pq ci 1 q t (by first | assumption | omega) (by first | assumption | omega) (by first | assumption | omega) (by first | assumption | omega) (by first | assumption | omega) (by first | assumption | omega) H.size) (cwV 3 hts gX8_rule_X8_isTold rfl rfl rfl (by decide +kernel) ⟨Nat.le_of_ble_eq_true rfl, Nat.le_of_ble_eq_true rfl⟩) ⟨CP.blind, (va_recv hev.1 hP (ci := 9) (q0 := 0) rfl rfl), (xpre hev hz hA hP hD hS hR0 hap [0, 30, 7, 16, 17, 18, 12, 13] rfl)⟩ rfl rfl hl.1 rfl (lv_room (Nat.le_of_ble_eq_true rfl)) dX8_rule_173 ⟨Nat.le_of_ble_eq_true rfl, Nat.le_of_ble_eq_true rfl⟩) hP hD hS hA (fun r120 w121 H locs h122 hP hD hS => ?_)
                  obtain ⟨rfl, rfl, h122⟩ := h122
                  try dsimp only at h122
                  have hP : va_P E.1 vwCl [(mo, .inr (9, mOb ad th (nI kn) (nI rn) (nI m296) (nI dp))), (ad 29, aI E 256 g2997), (ad 30, aI E 32 g3098), (ad 34, aI E 16 g3499), (ad 35, aI E 8 g35100), (ad 36, aI E 8 g36101)] H := hP
                  have hD : va_D A [(mo, .inr (9, mOb ad th (nI kn) (nI rn) (nI m296) (nI dp))), (ad 29, aI E 256 g2997), (ad 30, aI E 32 g3098), (ad 34, aI E 16 g3499), (ad 35, aI E 8 g35100), (ad 36, aI E 8 g36101)] := hD
                  refine lv_if_eq (tgt := 195) hx hb dX8_rule_176 (by decide) (fun c123 => ?_) (fun c123 => ?_)
                  · skip
                    have kc123 := b1_0.mp c123
                    refine lv_bipush (v := 7) hx hb dX8_rule_195 (by decide) ?_
                    refine xri hx hb hr hlocks hP hD hS ⟨m296, g2997, g3098, g3499, g35100, g36101, rfl, ?_, ?_⟩ dX8_rule_197
                    · rw [mrl, pick_f r2, pick_f r3, pick_f r4, pick_f r5, pick_f r6, pick_t (fun z => kc123 (z.1 kc112))]
                      rfl
                    · trivial
                  · skip
                    have kc123 := b1_n.mp c123
                    refine lv_iload hx hb dX8_rule_179 (lv_at hl 2 rfl) ?_
                    refine lv_iconst (v := 3) hx hb dX8_rule_181 (by decide) ?_
                    refine lv_icmp_lt (tgt := 198) hx hb dX8_rule_182 (by decide) (fun c124 => ?_) (fun c124 => absurd ((nI_ltI (a := (pq q 17)) (b := 3) (by omega) (by omega)).mpr (by omega)) c124)
                    have r7 : ¬ ¬ mT7 ci am al pq t q := fun z => z ⟨fun _ => kc123, fun z => absurd (show pq q 17 < 3 by omega) z⟩
                    refine lv_iload hx hb dX8_rule_198 (lv_at hl 2 rfl) ?_
                    refine lv_iconst (v := 2) hx hb dX8_rule_200 (by decide) ?_
                    refine lv_icmp_ne (tgt := 231) hx hb dX8_rule_201 (by decide) (fun c125 => absurd c125 (fun h9 => h9 ((nI_eq (a := (pq q 17)) (b := 2) (by omega) (by omega)).mpr (kc112)))) (fun c125 => ?_)
                    refine lv_aload_n hx hb dX8_rule_204 rfl (lv_at hl 3 rfl) ?_
                    refine xgt TX8_27 (v := .ref (ad 27)) hx hb hts hiX8 hown hev.1 hP 0 rfl (by decide) hf84 rfl dX8_rule_205 ?_
                    refine lv_iconst (v := 2) hx hb dX8_rule_208 (by decide) ?_
                    refine xiald (k := 2) hx hb hev.1 (xro hR0 hap hS) 24 1 rfl rfl (by omega) (by decide) dX8_rule_209 ?_
                    cases o126 : ci 2 with
                    | none =>
                      refine xtop (y := (-1)) ((hnw _ (by omega)).trans (nw_n o126)) ?_
                      refine lv_iconst (v := (-1)) hx hb dX8_rule_210 (by decide) ?_
                      refine lv_icmp_eq (tgt := 231) hx hb dX8_rule_211 (by decide) (fun c127 => ?_) (fun c127 => absurd (by decide) c127)
                      refine lv_iconst (v := 0) hx hb dX8_rule_231 (by decide) ?_
                      refine xri hx hb hr hlocks hP hD hS ⟨m296, g2997, g3098, g3499, g35100, g36101, rfl, ?_, ?_⟩ dX8_rule_232
                      · rw [mrl, pick_f r2, pick_f r3, pick_f r4, pick_f r5, pick_f r6, pick_f r7, pick_f (fun z => z (fun _ k9 h9 => by rw [o126] at h9; cases h9))]
                        rfl
                      · trivial
                    | some k2 =>
                      have hkk2 : k2 < rn := hci _ _ o126
                      refine xtop (y := nI k2) ((hnw _ (by omega)).trans (nw_s o126)) ?_
                      obtain ⟨h10B, h12B, h15B, h18B, h22B, h24B, hb10B, hb12B, hb15B, hb18B, hb22B, hb24B⟩ := hmk k2 (hkk2)
                      refine lv_iconst (v := (-1)) hx hb dX8_rule_210 (by decide) ?_
                      refine lv_icmp_eq (tgt := 231) hx hb dX8_rule_211 (by decide) (fun c128 => absurd c128 (nI_ne1 (by omega))) (fun c128 => ?_)
                      refine lv_aload_n hx hb dX8_rule_214 rfl (lv_at hl 3 rfl) ?_
                      refine lv_aload_n hx hb dX8_rule_215 rfl (lv_at hl 3 rfl) ?_
                      refine xgt TX8_27 (v := .ref (ad 27)) hx hb hts hiX8 hown hev.1 hP 0 rfl (by decide) hf84 rfl dX8_rule_216 ?_
                      refine lv_iconst (v := 2) hx hb dX8_rule_219 (by decide) ?_
                      refine xiald (k := 2) hx hb hev.1 (xro hR0 hap hS) 24 1 rfl rfl (by omega) (by decide) dX8_rule_220 ?_
                      refine xtop (y := nI k2) ((hnw _ (by omega)).trans (nw_s o126)) ?_
                      refine lv_iload_n hx hb dX8_rule_221 rfl (lv_at hl 4 rfl) ?_
                      have hP := hP.sub (ws' := [] ++ [(mo, .inr (9, mOb ad th (nI kn) (nI rn) (nI m296) (nI dp))), (ad 29, aI E 256 g2997), (ad 30, aI E 32 g3098), (ad 34, aI E 16 g3499), (ad 35, aI E 8 g35100), (ad 36, aI E 8 g36101)]) [0, 1, 2, 3, 4, 5] rfl
                      have hD := hD.sub (ws' := [] ++ [(mo, .inr (9, mOb ad th (nI kn) (nI rn) (nI m296) (nI dp))), (ad 29, aI E 256 g2997), (ad 30, aI E 32 g3098), (ad 34, aI E 16 g3499), (ad 35, aI E 8 g35100), (ad 36, aI E 8 g36101)]) [0, 1, 2, 3, 4, 5] (by decide) rfl
                      refine xci (va_runV (As := [.int (nI k2), .int (nI q)]) (rest := []) ⟨hx, hb, hml, hown, hts⟩ (kX8_goesOn l E mo ad th kn rn m296 dp am al pq k2 q (by first | assumption | omega) (by first | assumption | omega) (by first | assumption | omega) (by first | assumption | omega) H.size) (cwV 2 hts gX8_rule_X8_goesOn rfl rfl rfl (by decide +kernel) ⟨Nat.le_of_ble_eq_true rfl, Nat.le_of_ble_eq_true rfl⟩) ⟨CP.blind, (va_recv hev.1 hP (ci := 9) (q0 := 0) rfl rfl), (xpre hev hz hA hP hD hS hR0 hap [0, 16, 17, 18] rfl)⟩ rfl rfl hl.1 rfl (lv_room (Nat.le_of_ble_eq_true rfl)) dX8_rule_222 ⟨Nat.le_of_ble_eq_true rfl, Nat.le_of_ble_eq_true rfl⟩) hP hD hS hA (fun r129 w130 H locs h131 hP hD hS => ?_)
                      obtain ⟨rfl, rfl, h131⟩ := h131
                      try dsimp only at h131
                      have hP : va_P E.1 vwCl [(mo, .inr (9, mOb ad th (nI kn) (nI rn) (nI m296) (nI dp))), (ad 29, aI E 256 g2997), (ad 30, aI E 32 g3098), (ad 34, aI E 16 g3499), (ad 35, aI E 8 g35100), (ad 36, aI E 8 g36101)] H := hP
                      have hD : va_D A [(mo, .inr (9, mOb ad th (nI kn) (nI rn) (nI m296) (nI dp))), (ad 29, aI E 256 g2997), (ad 30, aI E 32 g3098), (ad 34, aI E 16 g3499), (ad 35, aI E 8 g35100), (ad 36, aI E 8 g36101)] := hD
                      refine lv_if_ne (tgt := 231) hx hb dX8_rule_225 (by decide) (fun c132 => ?_) (fun c132 => ?_)
                      · skip
                        have kc132 := b1_n.mp c132
                        refine lv_iconst (v := 0) hx hb dX8_rule_231 (by decide) ?_
                        refine xri hx hb hr hlocks hP hD hS ⟨m296, g2997, g3098, g3499, g35100, g36101, rfl, ?_, ?_⟩ dX8_rule_232
                        · rw [mrl, pick_f r2, pick_f r3, pick_f r4, pick_f r5, pick_f r6, pick_f r7, pick_f (fun z => z (fun _ k9 h9 => by rw [o126] at h9; cases h9; exact kc132))]
                          rfl
                        · trivial
                      · skip
                        have kc132 := b1_0.mp c132
                        refine lv_bipush (v := 8) hx hb dX8_rule_228 (by decide) ?_
                        refine xri hx hb hr hlocks hP hD hS ⟨m296, g2997, g3098, g3499, g35100, g36101, rfl, ?_, ?_⟩ dX8_rule_230
                        · rw [mrl, pick_f r2, pick_f r3, pick_f r4, pick_f r5, pick_f r6, pick_f r7, pick_t (fun z => kc132 (z kc112 k2 o126))]
                          rfl
                        · trivial
              · skip
                have kc111 := b1_0.mp c111
                refine lv_bipush (v := 6) hx hb dX8_rule_160 (by decide) ?_
                refine xri hx hb hr hlocks hP hD hS ⟨m296, g2997, g3098, g3499, g35100, g36101, rfl, ?_, ?_⟩ dX8_rule_162
                · rw [mrl, pick_f r2, pick_f r3, pick_f r4, pick_f r5, pick_t (Classical.not_not.mp kc111)]
                  rfl
                · trivial
            · skip
              refine lv_goto (tgt := 149) hx hb dX8_rule_135 (by decide) ?_
              refine lv_iconst (v := 5) hx hb dX8_rule_149 (by decide) ?_
              refine xri hx hb hr hlocks hP hD hS ⟨m296, g2997, g3098, g3499, g35100, g36101, rfl, ?_, ?_⟩ dX8_rule_150
              · rw [mrl, pick_f r2, pick_f r3, pick_f r4, pick_t (fun z => c107 (z.1 kc80 k0 o5))]
                rfl
              · trivial
          | some kw =>
            have hkkw : kw < rn := hci _ _ o103
            refine xtop (y := nI kw) ((hnw _ (by omega)).trans (nw_s o103)) ?_
            obtain ⟨h10W, h12W, h15W, h18W, h22W, h24W, hb10W, hb12W, hb15W, hb18W, hb22W, hb24W⟩ := hmk kw (hkkw)
            refine lv_iconst (v := (-1)) hx hb dX8_rule_89 (by decide) ?_
            refine lv_icmp_ne (tgt := 97) hx hb dX8_rule_90 (by decide) (fun c133 => ?_) (fun c133 => absurd c133 (nI_ne1 (by omega)))
            refine lv_aload_n hx hb dX8_rule_97 rfl (lv_at hl 2 rfl) ?_
            refine xgt TX8_11 (v := .ref (ad 11)) hx hb hts hiX8 hown hev.1 hP 0 rfl (by decide) hf36 rfl dX8_rule_98 ?_
            refine lv_aload_n hx hb dX8_rule_101 rfl (lv_at hl 2 rfl) ?_
            refine xgt TX8_27 (v := .ref (ad 27)) hx hb hts hiX8 hown hev.1 hP 0 rfl (by decide) hf84 rfl dX8_rule_102 ?_
            refine lv_iload hx hb dX8_rule_105 (lv_at hl 1 rfl) ?_
            refine xiald (k := (pq q 17)) hx hb hev.1 (xro hR0 hap hS) 24 1 rfl rfl (by omega) (by decide) dX8_rule_107 ?_
            refine xtop (y := nI kw) ((hnw _ (by omega)).trans (nw_s o103)) ?_
            refine xiald (k := (kw)) hx hb hev.1 (xro hR0 hap hS) 7 1 rfl rfl (by omega) (by decide) dX8_rule_108 ?_
            refine xtop (y := mWas ci am (pq q 17)) ((mWas_s o103).symm) ?_
            refine lv_istore (lv' := [(6, .int (mWas ci am (pq q 17))), (5, .int (nI k0)), (4, .int (nI (pq q 17))), (0, .ref mo), (1, .int (nI q)), (2, .long t)]) hx hb dX8_rule_109 hl (by decide) rfl (fun ls hl => ?_)
            refine lv_iload hx hb dX8_rule_111 (lv_at hl 2 rfl) ?_
            refine lv_if_ne (tgt := 138) hx hb dX8_rule_113 (by decide) (fun c134 => absurd c134 (fun h9 => h9 ((nI_eq (a := (pq q 17)) (b := 0) (by omega) (by omega)).mpr (kc80)))) (fun c134 => ?_)
            refine lv_iload hx hb dX8_rule_116 (lv_at hl 1 rfl) ?_
            refine lv_iconst (v := (-1)) hx hb dX8_rule_118 (by decide) ?_
            refine lv_icmp_eq (tgt := 151) hx hb dX8_rule_119 (by decide) (fun c135 => absurd c135 (nI_ne1 (by omega))) (fun c135 => ?_)
            refine lv_aload_n hx hb dX8_rule_122 rfl (lv_at hl 3 rfl) ?_
            refine xgt TX8_11 (v := .ref (ad 11)) hx hb hts hiX8 hown hev.1 hP 0 rfl (by decide) hf36 rfl dX8_rule_123 ?_
            refine lv_iload_n hx hb dX8_rule_126 rfl (lv_at hl 4 rfl) ?_
            refine xiald (k := (q)) hx hb hev.1 (xro hR0 hap hS) 7 1 rfl rfl (by omega) (by decide) dX8_rule_127 ?_
            refine lv_iload hx hb dX8_rule_128 (lv_at hl 0 rfl) ?_
            refine lv_iconst (v := 1) hx hb dX8_rule_130 (by decide) ?_
            refine lv_iadd hx hb dX8_rule_131 ?_
            refine lv_icmp_eq (tgt := 151) hx hb dX8_rule_132 (by decide) (fun c136 => ?_) (fun c136 => ?_)
            · skip
              have r5 : ¬ ¬ mFol ci am pq q := fun z => z ⟨fun _ k9 h9 => (by rw [o5] at h9; cases h9; exact c136), fun z => absurd kc80 z⟩
              refine lv_aload_n hx hb dX8_rule_151 rfl (lv_at hl 3 rfl) ?_
              refine lv_iload_n hx hb dX8_rule_152 rfl (lv_at hl 4 rfl) ?_
              refine lv_lload_n hx hb dX8_rule_153 rfl (lv_at hl 5 rfl) ?_
              have hP := hP.sub (ws' := [] ++ [(mo, .inr (9, mOb ad th (nI kn) (nI rn) (nI m296) (nI dp))), (ad 29, aI E 256 g2997), (ad 30, aI E 32 g3098), (ad 34, aI E 16 g3499), (ad 35, aI E 8 g35100), (ad 36, aI E 8 g36101)]) [0, 1, 2, 3, 4, 5] rfl
              have hD := hD.sub (ws' := [] ++ [(mo, .inr (9, mOb ad th (nI kn) (nI rn) (nI m296) (nI dp))), (ad 29, aI E 256 g2997), (ad 30, aI E 32 g3098), (ad 34, aI E 16 g3499), (ad 35, aI E 8 g35100), (ad 36, aI E 8 g36101)]) [0, 1, 2, 3, 4, 5] (by decide) rfl
              refine xci (va_runV (As := [.int (nI q), .long t]) (rest := []) ⟨hx, hb, hml, hown, hts⟩ (kX8_isAlive l E mo ad th kn rn m296 dp (al 14) q t (by first | assumption | omega) H.size) (cwV 2 hts gX8_rule_X8_isAlive rfl rfl rfl (by decide +kernel) ⟨Nat.le_of_ble_eq_true rfl, Nat.le_of_ble_eq_true rfl⟩) ⟨CP.blind, (va_recv hev.1 hP (ci := 9) (q0 := 0) rfl rfl), (xpre hev hz hA hP hD hS hR0 hap [0, 7] rfl)⟩ rfl rfl hl.1 rfl (lv_room (Nat.le_of_ble_eq_true rfl)) dX8_rule_154 ⟨Nat.le_of_ble_eq_true rfl, Nat.le_of_ble_eq_true rfl⟩) hP hD hS hA (fun r137 w138 H locs h139 hP hD hS => ?_)
              obtain ⟨rfl, rfl, h139⟩ := h139
              try dsimp only at h139
              have hP : va_P E.1 vwCl [(mo, .inr (9, mOb ad th (nI kn) (nI rn) (nI m296) (nI dp))), (ad 29, aI E 256 g2997), (ad 30, aI E 32 g3098), (ad 34, aI E 16 g3499), (ad 35, aI E 8 g35100), (ad 36, aI E 8 g36101)] H := hP
              have hD : va_D A [(mo, .inr (9, mOb ad th (nI kn) (nI rn) (nI m296) (nI dp))), (ad 29, aI E 256 g2997), (ad 30, aI E 32 g3098), (ad 34, aI E 16 g3499), (ad 35, aI E 8 g35100), (ad 36, aI E 8 g36101)] := hD
              refine lv_if_ne (tgt := 163) hx hb dX8_rule_157 (by decide) (fun c140 => ?_) (fun c140 => ?_)
              · skip
                have kc140 := b1_n.mp c140
                have r6 := kc140
                refine lv_iload hx hb dX8_rule_163 (lv_at hl 2 rfl) ?_
                refine lv_iconst (v := 2) hx hb dX8_rule_165 (by decide) ?_
                refine lv_icmp_ne (tgt := 179) hx hb dX8_rule_166 (by decide) (fun c141 => ?_) (fun c141 => ?_)
                · skip
                  have kc141 : ¬ (pq q 17) = 2 := fun h9 => c141 ((nI_eq (a := (pq q 17)) (b := 2) (by omega) (by omega)).mpr h9)
                  refine lv_iload hx hb dX8_rule_179 (lv_at hl 2 rfl) ?_
                  refine lv_iconst (v := 3) hx hb dX8_rule_181 (by decide) ?_
                  refine lv_icmp_lt (tgt := 198) hx hb dX8_rule_182 (by decide) (fun c142 => ?_) (fun c142 => ?_)
                  · skip
                    have kc142 : (pq q 17) < 3 := (nI_ltI (a := (pq q 17)) (b := 3) (by omega) (by omega)).mp c142
                    have r7 : ¬ ¬ mT7 ci am al pq t q := fun z => z ⟨fun z => absurd z kc141, fun z => absurd kc142 z⟩
                    refine lv_iload hx hb dX8_rule_198 (lv_at hl 2 rfl) ?_
                    refine lv_iconst (v := 2) hx hb dX8_rule_200 (by decide) ?_
                    refine lv_icmp_ne (tgt := 231) hx hb dX8_rule_201 (by decide) (fun c143 => ?_) (fun c143 => absurd c143 (fun h9 => absurd ((nI_eq (a := (pq q 17)) (b := 2) (by omega) (by omega)).mp h9) (kc141)))
                    refine lv_iconst (v := 0) hx hb dX8_rule_231 (by decide) ?_
                    refine xri hx hb hr hlocks hP hD hS ⟨m296, g2997, g3098, g3499, g35100, g36101, rfl, ?_, ?_⟩ dX8_rule_232
                    · rw [mrl, pick_f r2, pick_f r3, pick_f r4, pick_f r5, pick_f r6, pick_f r7, pick_f (fun z => z (fun z9 => absurd z9 kc141))]
                      rfl
                    · trivial
                  · skip
                    have kc142 : ¬ (pq q 17) < 3 := fun h9 => c142 ((nI_ltI (a := (pq q 17)) (b := 3) (by omega) (by omega)).mpr h9)
                    refine lv_aload_n hx hb dX8_rule_185 rfl (lv_at hl 3 rfl) ?_
                    refine lv_iconst (v := 2) hx hb dX8_rule_186 (by decide) ?_
                    refine lv_iload_n hx hb dX8_rule_187 rfl (lv_at hl 4 rfl) ?_
                    refine lv_lload_n hx hb dX8_rule_188 rfl (lv_at hl 5 rfl) ?_
                    have hP := hP.sub (ws' := [] ++ [(mo, .inr (9, mOb ad th (nI kn) (nI rn) (nI m296) (nI dp))), (ad 29, aI E 256 g2997), (ad 30, aI E 32 g3098), (ad 34, aI E 16 g3499), (ad 35, aI E 8 g35100), (ad 36, aI E 8 g36101)]) [0, 1, 2, 3, 4, 5] rfl
                    have hD := hD.sub (ws' := [] ++ [(mo, .inr (9, mOb ad th (nI kn) (nI rn) (nI m296) (nI dp))), (ad 29, aI E 256 g2997), (ad 30, aI E 32 g3098), (ad 34, aI E 16 g3499), (ad 35, aI E 8 g35100), (ad 36, aI E 8 g36101)]) [0, 1, 2, 3, 4, 5] (by decide) rfl
                    refine xci (va_runV (As := [.int 2, .int (nI q), .long t]) (rest := []) ⟨hx, hb, hml, hown, hts⟩ (kX8_isTold l E mo ad th kn rn m296 dp am al pq ci 2 q t (by first | assumption | omega) (by first | assumption | omega) (by first | assumption | omega) (by first | assumption | omega) (by first | assumption | omega) (by first | assumption | omega) H.size) (cwV 3 hts gX8_rule_X8_isTold rfl rfl rfl (by decide +kernel) ⟨Nat.le_of_ble_eq_true rfl, Nat.le_of_ble_eq_true rfl⟩) ⟨CP.blind, (va_recv hev.1 hP (ci := 9) (q0 := 0) rfl rfl), (xpre hev hz hA hP hD hS hR0 hap [0, 30, 7, 16, 17, 18, 12, 13] rfl)⟩ rfl rfl hl.1 rfl (lv_room (Nat.le_of_ble_eq_true rfl)) dX8_rule_189 ⟨Nat.le_of_ble_eq_true rfl, Nat.le_of_ble_eq_true rfl⟩) hP hD hS hA (fun r144 w145 H locs h146 hP hD hS => ?_)
                    obtain ⟨rfl, rfl, h146⟩ := h146
                    try dsimp only at h146
                    have hP : va_P E.1 vwCl [(mo, .inr (9, mOb ad th (nI kn) (nI rn) (nI m296) (nI dp))), (ad 29, aI E 256 g2997), (ad 30, aI E 32 g3098), (ad 34, aI E 16 g3499), (ad 35, aI E 8 g35100), (ad 36, aI E 8 g36101)] H := hP
                    have hD : va_D A [(mo, .inr (9, mOb ad th (nI kn) (nI rn) (nI m296) (nI dp))), (ad 29, aI E 256 g2997), (ad 30, aI E 32 g3098), (ad 34, aI E 16 g3499), (ad 35, aI E 8 g35100), (ad 36, aI E 8 g36101)] := hD
                    refine lv_if_ne (tgt := 198) hx hb dX8_rule_192 (by decide) (fun c147 => ?_) (fun c147 => ?_)
                    · skip
                      have kc147 := b1_n.mp c147
                      have r7 : ¬ ¬ mT7 ci am al pq t q := fun z => z ⟨fun z => absurd z kc141, fun _ => kc147⟩
                      refine lv_iload hx hb dX8_rule_198 (lv_at hl 2 rfl) ?_
                      refine lv_iconst (v := 2) hx hb dX8_rule_200 (by decide) ?_
                      refine lv_icmp_ne (tgt := 231) hx hb dX8_rule_201 (by decide) (fun c148 => ?_) (fun c148 => absurd c148 (fun h9 => absurd ((nI_eq (a := (pq q 17)) (b := 2) (by omega) (by omega)).mp h9) (kc141)))
                      refine lv_iconst (v := 0) hx hb dX8_rule_231 (by decide) ?_
                      refine xri hx hb hr hlocks hP hD hS ⟨m296, g2997, g3098, g3499, g35100, g36101, rfl, ?_, ?_⟩ dX8_rule_232
                      · rw [mrl, pick_f r2, pick_f r3, pick_f r4, pick_f r5, pick_f r6, pick_f r7, pick_f (fun z => z (fun z9 => absurd z9 kc141))]
                        rfl
                      · trivial
                    · skip
                      have kc147 := b1_0.mp c147
                      refine lv_bipush (v := 7) hx hb dX8_rule_195 (by decide) ?_
                      refine xri hx hb hr hlocks hP hD hS ⟨m296, g2997, g3098, g3499, g35100, g36101, rfl, ?_, ?_⟩ dX8_rule_197
                      · rw [mrl, pick_f r2, pick_f r3, pick_f r4, pick_f r5, pick_f r6, pick_t (fun z => kc147 (z.2 kc142))]
                        rfl
                      · trivial
                · skip
                  have kc141 : (pq q 17) = 2 := (nI_eq (a := (pq q 17)) (b := 2) (by omega) (by omega)).mp c141
                  refine lv_aload_n hx hb dX8_rule_169 rfl (lv_at hl 3 rfl) ?_
                  refine lv_iconst (v := 1) hx hb dX8_rule_170 (by decide) ?_
                  refine lv_iload_n hx hb dX8_rule_171 rfl (lv_at hl 4 rfl) ?_
                  refine lv_lload_n hx hb dX8_rule_172 rfl (lv_at hl 5 rfl) ?_
                  have hP := hP.sub (ws' := [] ++ [(mo, .inr (9, mOb ad th (nI kn) (nI rn) (nI m296) (nI dp))), (ad 29, aI E 256 g2997), (ad 30, aI E 32 g3098), (ad 34, aI E 16 g3499), (ad 35, aI E 8 g35100), (ad 36, aI E 8 g36101)]) [0, 1, 2, 3, 4, 5] rfl
                  have hD := hD.sub (ws' := [] ++ [(mo, .inr (9, mOb ad th (nI kn) (nI rn) (nI m296) (nI dp))), (ad 29, aI E 256 g2997), (ad 30, aI E 32 g3098), (ad 34, aI E 16 g3499), (ad 35, aI E 8 g35100), (ad 36, aI E 8 g36101)]) [0, 1, 2, 3, 4, 5] (by decide) rfl
                  refine xci (va_runV (As := [.int 1, .int (nI q), .long t]) (rest := []) ⟨hx, hb, hml, hown, hts⟩ (kX8_isTold l E mo ad th kn rn m296 dp am al pq ci 1 q t (by first | assumption | omega) (by first | assumption | omega) (by first | assumption | omega) (by first | assumption | omega) (by first | assumption | omega) (by first | assumption | omega) H.size) (cwV 3 hts gX8_rule_X8_isTold rfl rfl rfl (by decide +kernel) ⟨Nat.le_of_ble_eq_true rfl, Nat.le_of_ble_eq_true rfl⟩) ⟨CP.blind, (va_recv hev.1 hP (ci := 9) (q0 := 0) rfl rfl), (xpre hev hz hA hP hD hS hR0 hap [0, 30, 7, 16, 17, 18, 12, 13] rfl)⟩ rfl rfl hl.1 rfl (lv_room (Nat.le_of_ble_eq_true rfl)) dX8_rule_173 ⟨Nat.le_of_ble_eq_true rfl, Nat.le_of_ble_eq_true rfl⟩) hP hD hS hA (fun r149 w150 H locs h151 hP hD hS => ?_)
                  obtain ⟨rfl, rfl, h151⟩ := h151
                  try dsimp only at h151
                  have hP : va_P E.1 vwCl [(mo, .inr (9, mOb ad th (nI kn) (nI rn) (nI m296) (nI dp))), (ad 29, aI E 256 g2997), (ad 30, aI E 32 g3098), (ad 34, aI E 16 g3499), (ad 35, aI E 8 g35100), (ad 36, aI E 8 g36101)] H := hP
                  have hD : va_D A [(mo, .inr (9, mOb ad th (nI kn) (nI rn) (nI m296) (nI dp))), (ad 29, aI E 256 g2997), (ad 30, aI E 32 g3098), (ad 34, aI E 16 g3499), (ad 35, aI E 8 g35100), (ad 36, aI E 8 g36101)] := hD
                  refine lv_if_eq (tgt := 195) hx hb dX8_rule_176 (by decide) (fun c152 => ?_) (fun c152 => ?_)
                  · skip
                    have kc152 := b1_0.mp c152
                    refine lv_bipush (v := 7) hx hb dX8_rule_195 (by decide) ?_
                    refine xri hx hb hr hlocks hP hD hS ⟨m296, g2997, g3098, g3499, g35100, g36101, rfl, ?_, ?_⟩ dX8_rule_197
                    · rw [mrl, pick_f r2, pick_f r3, pick_f r4, pick_f r5, pick_f r6, pick_t (fun z => kc152 (z.1 kc141))]
                      rfl
                    · trivial
                  · skip
                    have kc152 := b1_n.mp c152
                    refine lv_iload hx hb dX8_rule_179 (lv_at hl 2 rfl) ?_
                    refine lv_iconst (v := 3) hx hb dX8_rule_181 (by decide) ?_
                    refine lv_icmp_lt (tgt := 198) hx hb dX8_rule_182 (by decide) (fun c153 => ?_) (fun c153 => absurd ((nI_ltI (a := (pq q 17)) (b := 3) (by omega) (by omega)).mpr (by omega)) c153)
                    have r7 : ¬ ¬ mT7 ci am al pq t q := fun z => z ⟨fun _ => kc152, fun z => absurd (show pq q 17 < 3 by omega) z⟩
                    refine lv_iload hx hb dX8_rule_198 (lv_at hl 2 rfl) ?_
                    refine lv_iconst (v := 2) hx hb dX8_rule_200 (by decide) ?_
                    refine lv_icmp_ne (tgt := 231) hx hb dX8_rule_201 (by decide) (fun c154 => absurd c154 (fun h9 => h9 ((nI_eq (a := (pq q 17)) (b := 2) (by omega) (by omega)).mpr (kc141)))) (fun c154 => ?_)
                    refine lv_aload_n hx hb dX8_rule_204 rfl (lv_at hl 3 rfl) ?_
                    refine xgt TX8_27 (v := .ref (ad 27)) hx hb hts hiX8 hown hev.1 hP 0 rfl (by decide) hf84 rfl dX8_rule_205 ?_
                    refine lv_iconst (v := 2) hx hb dX8_rule_208 (by decide) ?_
                    refine xiald (k := 2) hx hb hev.1 (xro hR0 hap hS) 24 1 rfl rfl (by omega) (by decide) dX8_rule_209 ?_
                    cases o155 : ci 2 with
                    | none =>
                      refine xtop (y := (-1)) ((hnw _ (by omega)).trans (nw_n o155)) ?_
                      refine lv_iconst (v := (-1)) hx hb dX8_rule_210 (by decide) ?_
                      refine lv_icmp_eq (tgt := 231) hx hb dX8_rule_211 (by decide) (fun c156 => ?_) (fun c156 => absurd (by decide) c156)
                      refine lv_iconst (v := 0) hx hb dX8_rule_231 (by decide) ?_
                      refine xri hx hb hr hlocks hP hD hS ⟨m296, g2997, g3098, g3499, g35100, g36101, rfl, ?_, ?_⟩ dX8_rule_232
                      · rw [mrl, pick_f r2, pick_f r3, pick_f r4, pick_f r5, pick_f r6, pick_f r7, pick_f (fun z => z (fun _ k9 h9 => by rw [o155] at h9; cases h9))]
                        rfl
                      · trivial
                    | some k2 =>
                      have hkk2 : k2 < rn := hci _ _ o155
                      refine xtop (y := nI k2) ((hnw _ (by omega)).trans (nw_s o155)) ?_
                      obtain ⟨h10B, h12B, h15B, h18B, h22B, h24B, hb10B, hb12B, hb15B, hb18B, hb22B, hb24B⟩ := hmk k2 (hkk2)
                      refine lv_iconst (v := (-1)) hx hb dX8_rule_210 (by decide) ?_
                      refine lv_icmp_eq (tgt := 231) hx hb dX8_rule_211 (by decide) (fun c157 => absurd c157 (nI_ne1 (by omega))) (fun c157 => ?_)
                      refine lv_aload_n hx hb dX8_rule_214 rfl (lv_at hl 3 rfl) ?_
                      refine lv_aload_n hx hb dX8_rule_215 rfl (lv_at hl 3 rfl) ?_
                      refine xgt TX8_27 (v := .ref (ad 27)) hx hb hts hiX8 hown hev.1 hP 0 rfl (by decide) hf84 rfl dX8_rule_216 ?_
                      refine lv_iconst (v := 2) hx hb dX8_rule_219 (by decide) ?_
                      refine xiald (k := 2) hx hb hev.1 (xro hR0 hap hS) 24 1 rfl rfl (by omega) (by decide) dX8_rule_220 ?_
                      refine xtop (y := nI k2) ((hnw _ (by omega)).trans (nw_s o155)) ?_
                      refine lv_iload_n hx hb dX8_rule_221 rfl (lv_at hl 4 rfl) ?_
                      have hP := hP.sub (ws' := [] ++ [(mo, .inr (9, mOb ad th (nI kn) (nI rn) (nI m296) (nI dp))), (ad 29, aI E 256 g2997), (ad 30, aI E 32 g3098), (ad 34, aI E 16 g3499), (ad 35, aI E 8 g35100), (ad 36, aI E 8 g36101)]) [0, 1, 2, 3, 4, 5] rfl
                      have hD := hD.sub (ws' := [] ++ [(mo, .inr (9, mOb ad th (nI kn) (nI rn) (nI m296) (nI dp))), (ad 29, aI E 256 g2997), (ad 30, aI E 32 g3098), (ad 34, aI E 16 g3499), (ad 35, aI E 8 g35100), (ad 36, aI E 8 g36101)]) [0, 1, 2, 3, 4, 5] (by decide) rfl
                      refine xci (va_runV (As := [.int (nI k2), .int (nI q)]) (rest := []) ⟨hx, hb, hml, hown, hts⟩ (kX8_goesOn l E mo ad th kn rn m296 dp am al pq k2 q (by first | assumption | omega) (by first | assumption | omega) (by first | assumption | omega) (by first | assumption | omega) H.size) (cwV 2 hts gX8_rule_X8_goesOn rfl rfl rfl (by decide +kernel) ⟨Nat.le_of_ble_eq_true rfl, Nat.le_of_ble_eq_true rfl⟩) ⟨CP.blind, (va_recv hev.1 hP (ci := 9) (q0 := 0) rfl rfl), (xpre hev hz hA hP hD hS hR0 hap [0, 16, 17, 18] rfl)⟩ rfl rfl hl.1 rfl (lv_room (Nat.le_of_ble_eq_true rfl)) dX8_rule_222 ⟨Nat.le_of_ble_eq_true rfl, Nat.le_of_ble_eq_true rfl⟩) hP hD hS hA (fun r158 w159 H locs h160 hP hD hS => ?_)
                      obtain ⟨rfl, rfl, h160⟩ := h160
                      try dsimp only at h160
                      have hP : va_P E.1 vwCl [(mo, .inr (9, mOb ad th (nI kn) (nI rn) (nI m296) (nI dp))), (ad 29, aI E 256 g2997), (ad 30, aI E 32 g3098), (ad 34, aI E 16 g3499), (ad 35, aI E 8 g35100), (ad 36, aI E 8 g36101)] H := hP
                      have hD : va_D A [(mo, .inr (9, mOb ad th (nI kn) (nI rn) (nI m296) (nI dp))), (ad 29, aI E 256 g2997), (ad 30, aI E 32 g3098), (ad 34, aI E 16 g3499), (ad 35, aI E 8 g35100), (ad 36, aI E 8 g36101)] := hD
                      refine lv_if_ne (tgt := 231) hx hb dX8_rule_225 (by decide) (fun c161 => ?_) (fun c161 => ?_)
                      · skip
                        have kc161 := b1_n.mp c161
                        refine lv_iconst (v := 0) hx hb dX8_rule_231 (by decide) ?_
                        refine xri hx hb hr hlocks hP hD hS ⟨m296, g2997, g3098, g3499, g35100, g36101, rfl, ?_, ?_⟩ dX8_rule_232
                        · rw [mrl, pick_f r2, pick_f r3, pick_f r4, pick_f r5, pick_f r6, pick_f r7, pick_f (fun z => z (fun _ k9 h9 => by rw [o155] at h9; cases h9; exact kc161))]
                          rfl
                        · trivial
                      · skip
                        have kc161 := b1_0.mp c161
                        refine lv_bipush (v := 8) hx hb dX8_rule_228 (by decide) ?_
                        refine xri hx hb hr hlocks hP hD hS ⟨m296, g2997, g3098, g3499, g35100, g36101, rfl, ?_, ?_⟩ dX8_rule_230
                        · rw [mrl, pick_f r2, pick_f r3, pick_f r4, pick_f r5, pick_f r6, pick_f r7, pick_t (fun z => kc161 (z kc141 k2 o155))]
                          rfl
                        · trivial
              · skip
                have kc140 := b1_0.mp c140
                refine lv_bipush (v := 6) hx hb dX8_rule_160 (by decide) ?_
                refine xri hx hb hr hlocks hP hD hS ⟨m296, g2997, g3098, g3499, g35100, g36101, rfl, ?_, ?_⟩ dX8_rule_162
                · rw [mrl, pick_f r2, pick_f r3, pick_f r4, pick_f r5, pick_t (Classical.not_not.mp kc140)]
                  rfl
                · trivial
            · skip
              refine lv_goto (tgt := 149) hx hb dX8_rule_135 (by decide) ?_
              refine lv_iconst (v := 5) hx hb dX8_rule_149 (by decide) ?_
              refine xri hx hb hr hlocks hP hD hS ⟨m296, g2997, g3098, g3499, g35100, g36101, rfl, ?_, ?_⟩ dX8_rule_150
              · rw [mrl, pick_f r2, pick_f r3, pick_f r4, pick_t (fun z => c136 (z.1 kc80 k0 o5))]
                rfl
              · trivial
        · skip
          have kc102 := b1_0.mp c102
          refine lv_iconst (v := 4) hx hb dX8_rule_80 (by decide) ?_
          refine xri hx hb hr hlocks hP hD hS ⟨m296, g2997, g3098, g3499, g35100, g36101, rfl, ?_, ?_⟩ dX8_rule_81
          · rw [mrl, pick_f r2, pick_f r3, pick_t ⟨kc80, kc102⟩]
            rfl
          · trivial
      · skip
        have kc91 := b1_0.mp c91
        refine lv_iconst (v := 3) hx hb dX8_rule_62 (by decide) ?_
        refine xri hx hb hr hlocks hP hD hS ⟨m285, g2986, g3087, g3488, g3589, g3690, rfl, ?_, ?_⟩ dX8_rule_63
        · rw [mrl, pick_f r2, pick_t (fun z => kc91 (z k0 o5))]
          rfl
        · trivial
    · skip
      have kc80 : ¬ (pq q 17) = 0 := fun h9 => c80 ((nI_eq (a := (pq q 17)) (b := 0) (by omega) (by omega)).mpr h9)
      refine lv_aload_n hx hb dX8_rule_31 rfl (lv_at hl 2 rfl) ?_
      refine lv_iload hx hb dX8_rule_32 (lv_at hl 0 rfl) ?_
      refine lv_lload_n hx hb dX8_rule_34 rfl (lv_at hl 4 rfl) ?_
      have hP := hP.sub (ws' := [] ++ [(mo, .inr (9, mOb ad th (nI kn) (nI rn) (nI mn) (nI dp))), (ad 29, aI E 256 a29), (ad 30, aI E 32 a30), (ad 34, aI E 16 a34), (ad 35, aI E 8 a35), (ad 36, aI E 8 a36)]) [0, 1, 2, 3, 4, 5] rfl
      have hD := hD.sub (ws' := [] ++ [(mo, .inr (9, mOb ad th (nI kn) (nI rn) (nI mn) (nI dp))), (ad 29, aI E 256 a29), (ad 30, aI E 32 a30), (ad 34, aI E 16 a34), (ad 35, aI E 8 a35), (ad 36, aI E 8 a36)]) [0, 1, 2, 3, 4, 5] (by decide) rfl
      refine xci (va_runV (As := [.int (nI k0), .long t]) (rest := []) ⟨hx, hb, hml, hown, hts⟩ (kX8_isAlive l E mo ad th kn rn mn dp (al 14) k0 t (by first | assumption | omega) H.size) (cwV 2 hts gX8_rule_X8_isAlive rfl rfl rfl (by decide +kernel) ⟨Nat.le_of_ble_eq_true rfl, Nat.le_of_ble_eq_true rfl⟩) ⟨CP.blind, (va_recv hev.1 hP (ci := 9) (q0 := 0) rfl rfl), (xpre hev hz hA hP hD hS hR0 hap [0, 7] rfl)⟩ rfl rfl hl.1 rfl (lv_room (Nat.le_of_ble_eq_true rfl)) dX8_rule_35 ⟨Nat.le_of_ble_eq_true rfl, Nat.le_of_ble_eq_true rfl⟩) hP hD hS hA (fun r162 w163 H locs h164 hP hD hS => ?_)
      obtain ⟨rfl, rfl, h164⟩ := h164
      try dsimp only at h164
      have hP : va_P E.1 vwCl [(mo, .inr (9, mOb ad th (nI kn) (nI rn) (nI mn) (nI dp))), (ad 29, aI E 256 a29), (ad 30, aI E 32 a30), (ad 34, aI E 16 a34), (ad 35, aI E 8 a35), (ad 36, aI E 8 a36)] H := hP
      have hD : va_D A [(mo, .inr (9, mOb ad th (nI kn) (nI rn) (nI mn) (nI dp))), (ad 29, aI E 256 a29), (ad 30, aI E 32 a30), (ad 34, aI E 16 a34), (ad 35, aI E 8 a35), (ad 36, aI E 8 a36)] := hD
      refine lv_if_ne (tgt := 43) hx hb dX8_rule_38 (by decide) (fun c165 => ?_) (fun c165 => ?_)
      · skip
        have kc165 := b1_n.mp c165
        have r2 : ¬ (¬ pq q 17 = 0 ∧ ¬ mAlv ci al t) := fun z => z.2 ⟨k0, o5, kc165⟩
        refine lv_iload hx hb dX8_rule_43 (lv_at hl 0 rfl) ?_
        refine lv_iconst (v := (-1)) hx hb dX8_rule_45 (by decide) ?_
        refine lv_icmp_eq (tgt := 64) hx hb dX8_rule_46 (by decide) (fun c166 => absurd c166 (nI_ne1 (by omega))) (fun c166 => ?_)
        refine lv_aload_n hx hb dX8_rule_49 rfl (lv_at hl 2 rfl) ?_
        refine lv_iload_n hx hb dX8_rule_50 rfl (lv_at hl 3 rfl) ?_
        refine lv_iload hx hb dX8_rule_51 (lv_at hl 1 rfl) ?_
        refine lv_iload hx hb dX8_rule_53 (lv_at hl 0 rfl) ?_
        refine lv_lload_n hx hb dX8_rule_55 rfl (lv_at hl 4 rfl) ?_
        have hP := hP.sub (ws' := [(mo, .inr (9, mOb ad th (nI kn) (nI rn) (nI mn) (nI dp))), (ad 29, aI E 256 a29), (ad 30, aI E 32 a30), (ad 34, aI E 16 a34), (ad 35, aI E 8 a35), (ad 36, aI E 8 a36)] ++ []) [0, 1, 2, 3, 4, 5] rfl
        have hD := hD.sub (ws' := [(mo, .inr (9, mOb ad th (nI kn) (nI rn) (nI mn) (nI dp))), (ad 29, aI E 256 a29), (ad 30, aI E 32 a30), (ad 34, aI E 16 a34), (ad 35, aI E 8 a35), (ad 36, aI E 8 a36)] ++ []) [0, 1, 2, 3, 4, 5] (by decide) rfl
        refine xci (va_runV (As := [.int (nI q), .int (nI (pq q 17)), .int (nI k0), .long t]) (rest := []) ⟨hx, hb, hml, hown, hts⟩ (kX8_hasQuorum l E mo ad th kn rn mn dp a29 a30 a34 a35 a36 (al 3) (al 14) (am 32) (am 33) (am 8) (am 9) (am 10) (am 11) (am 12) (am 13) (am 15) (am 16) (am 17) (am 18) (am 19) (am 20) (am 21) (am 22) (am 23) (am 24) (am 25) (al 26) (al 4) (am 5) q (pq q 17) (pq q 12) (pq q 15) (pq q 16) (pq q 13) (pq q 14) (pq q 17) k0 t (by first | assumption | omega) (by first | assumption | omega) (by first | assumption | omega) (by first | assumption | omega) (by first | assumption | omega) (by first | assumption | omega) (by first | assumption | omega) (by first | assumption | omega) (by first | assumption | omega) (by first | assumption | omega) (by first | assumption | omega) (by first | assumption | omega) (by first | assumption | omega) (by first | assumption | omega) (by first | assumption | omega) (by first | assumption | omega) (by first | assumption | omega) (by first | assumption | omega) H.size) (cwV 4 hts gX8_rule_X8_hasQuorum rfl rfl rfl (by decide +kernel) ⟨Nat.le_of_ble_eq_true rfl, Nat.le_of_ble_eq_true rfl⟩) ⟨CP.blind, (va_recv hev.1 hP.left (ci := 9) (q0 := 0) rfl rfl), (xpre hev hz hA hP hD hS hR0 hap [0, 1, 2, 3, 4, 5, 6, 7, 8, 9, 10, 11, 12, 13, 14, 15, 16, 17, 18, 19, 20, 21, 22, 23] rfl)⟩ rfl rfl hl.1 rfl (lv_room (Nat.le_of_ble_eq_true rfl)) dX8_rule_56 ⟨Nat.le_of_ble_eq_true rfl, Nat.le_of_ble_eq_true rfl⟩) hP hD hS hA (fun r167 w168 H locs h169 hP hD hS => ?_)
        obtain ⟨m2170, g29171, g30172, g34173, g35174, g36175, rfl, rfl, h169⟩ := h169
        try dsimp only at h169
        have hP : va_P E.1 vwCl [(mo, .inr (9, mOb ad th (nI kn) (nI rn) (nI m2170) (nI dp))), (ad 29, aI E 256 g29171), (ad 30, aI E 32 g30172), (ad 34, aI E 16 g34173), (ad 35, aI E 8 g35174), (ad 36, aI E 8 g36175)] H := hP
        have hD : va_D A [(mo, .inr (9, mOb ad th (nI kn) (nI rn) (nI m2170) (nI dp))), (ad 29, aI E 256 g29171), (ad 30, aI E 32 g30172), (ad 34, aI E 16 g34173), (ad 35, aI E 8 g35174), (ad 36, aI E 8 g36175)] := hD
        refine xtop (y := b1 (mQm kn am al pq t q (pq q 17) k0)) (rfl) ?_
        refine lv_if_ne (tgt := 64) hx hb dX8_rule_59 (by decide) (fun c176 => ?_) (fun c176 => ?_)
        · skip
          have kc176 := b1_n.mp c176
          have r3 : ¬ ¬ ∀ k, ci 0 = some k → mQm kn am al pq t q (pq q 17) k := fun z => z (fun k9 h9 => by rw [o5] at h9; cases h9; exact kc176)
          refine lv_iload hx hb dX8_rule_64 (lv_at hl 1 rfl) ?_
          refine lv_if_ne (tgt := 82) hx hb dX8_rule_66 (by decide) (fun c177 => ?_) (fun c177 => absurd c177 (fun h9 => absurd ((nI_eq (a := (pq q 17)) (b := 0) (by omega) (by omega)).mp h9) (kc80)))
          have r4 : ¬ (pq q 17 = 0 ∧ ¬ mQm kn am al pq t q 0 q) := fun z => kc80 z.1
          refine lv_aload_n hx hb dX8_rule_82 rfl (lv_at hl 2 rfl) ?_
          refine xgt TX8_27 (v := .ref (ad 27)) hx hb hts hiX8 hown hev.1 hP 0 rfl (by decide) hf84 rfl dX8_rule_83 ?_
          refine lv_iload hx hb dX8_rule_86 (lv_at hl 1 rfl) ?_
          refine xiald (k := (pq q 17)) hx hb hev.1 (xro hR0 hap hS) 24 1 rfl rfl (by omega) (by decide) dX8_rule_88 ?_
          cases o178 : ci (pq q 17) with
          | none =>
            refine xtop (y := (-1)) ((hnw _ (by omega)).trans (nw_n o178)) ?_
            refine lv_iconst (v := (-1)) hx hb dX8_rule_89 (by decide) ?_
            refine lv_icmp_ne (tgt := 97) hx hb dX8_rule_90 (by decide) (fun c179 => absurd c179 (by decide)) (fun c179 => ?_)
            refine lv_iconst (v := 0) hx hb dX8_rule_93 (by decide) ?_
            refine lv_goto (tgt := 109) hx hb dX8_rule_94 (by decide) ?_
            refine xtop (y := mWas ci am (pq q 17)) ((mWas_n o178).symm) ?_
            refine lv_istore (lv' := [(6, .int (mWas ci am (pq q 17))), (5, .int (nI k0)), (4, .int (nI (pq q 17))), (0, .ref mo), (1, .int (nI q)), (2, .long t)]) hx hb dX8_rule_109 hl (by decide) rfl (fun ls hl => ?_)
            refine lv_iload hx hb dX8_rule_111 (lv_at hl 2 rfl) ?_
            refine lv_if_ne (tgt := 138) hx hb dX8_rule_113 (by decide) (fun c180 => ?_) (fun c180 => absurd c180 (fun h9 => absurd ((nI_eq (a := (pq q 17)) (b := 0) (by omega) (by omega)).mp h9) (kc80)))
            refine lv_aload_n hx hb dX8_rule_138 rfl (lv_at hl 3 rfl) ?_
            refine xgt TX8_11 (v := .ref (ad 11)) hx hb hts hiX8 hown hev.1 hP 0 rfl (by decide) hf36 rfl dX8_rule_139 ?_
            refine lv_iload_n hx hb dX8_rule_142 rfl (lv_at hl 4 rfl) ?_
            refine xiald (k := (q)) hx hb hev.1 (xro hR0 hap hS) 7 1 rfl rfl (by omega) (by decide) dX8_rule_143 ?_
            refine lv_iload hx hb dX8_rule_144 (lv_at hl 0 rfl) ?_
            refine lv_icmp_ge (tgt := 151) hx hb dX8_rule_146 (by decide) (fun c181 => ?_) (fun c181 => ?_)
            · skip
              have r5 : ¬ ¬ mFol ci am pq q := fun z => z ⟨fun z => absurd z kc80, fun _ => c181⟩
              refine lv_aload_n hx hb dX8_rule_151 rfl (lv_at hl 3 rfl) ?_
              refine lv_iload_n hx hb dX8_rule_152 rfl (lv_at hl 4 rfl) ?_
              refine lv_lload_n hx hb dX8_rule_153 rfl (lv_at hl 5 rfl) ?_
              have hP := hP.sub (ws' := [] ++ [(mo, .inr (9, mOb ad th (nI kn) (nI rn) (nI m2170) (nI dp))), (ad 29, aI E 256 g29171), (ad 30, aI E 32 g30172), (ad 34, aI E 16 g34173), (ad 35, aI E 8 g35174), (ad 36, aI E 8 g36175)]) [0, 1, 2, 3, 4, 5] rfl
              have hD := hD.sub (ws' := [] ++ [(mo, .inr (9, mOb ad th (nI kn) (nI rn) (nI m2170) (nI dp))), (ad 29, aI E 256 g29171), (ad 30, aI E 32 g30172), (ad 34, aI E 16 g34173), (ad 35, aI E 8 g35174), (ad 36, aI E 8 g36175)]) [0, 1, 2, 3, 4, 5] (by decide) rfl
              refine xci (va_runV (As := [.int (nI q), .long t]) (rest := []) ⟨hx, hb, hml, hown, hts⟩ (kX8_isAlive l E mo ad th kn rn m2170 dp (al 14) q t (by first | assumption | omega) H.size) (cwV 2 hts gX8_rule_X8_isAlive rfl rfl rfl (by decide +kernel) ⟨Nat.le_of_ble_eq_true rfl, Nat.le_of_ble_eq_true rfl⟩) ⟨CP.blind, (va_recv hev.1 hP (ci := 9) (q0 := 0) rfl rfl), (xpre hev hz hA hP hD hS hR0 hap [0, 7] rfl)⟩ rfl rfl hl.1 rfl (lv_room (Nat.le_of_ble_eq_true rfl)) dX8_rule_154 ⟨Nat.le_of_ble_eq_true rfl, Nat.le_of_ble_eq_true rfl⟩) hP hD hS hA (fun r182 w183 H locs h184 hP hD hS => ?_)
              obtain ⟨rfl, rfl, h184⟩ := h184
              try dsimp only at h184
              have hP : va_P E.1 vwCl [(mo, .inr (9, mOb ad th (nI kn) (nI rn) (nI m2170) (nI dp))), (ad 29, aI E 256 g29171), (ad 30, aI E 32 g30172), (ad 34, aI E 16 g34173), (ad 35, aI E 8 g35174), (ad 36, aI E 8 g36175)] H := hP
              have hD : va_D A [(mo, .inr (9, mOb ad th (nI kn) (nI rn) (nI m2170) (nI dp))), (ad 29, aI E 256 g29171), (ad 30, aI E 32 g30172), (ad 34, aI E 16 g34173), (ad 35, aI E 8 g35174), (ad 36, aI E 8 g36175)] := hD
              refine lv_if_ne (tgt := 163) hx hb dX8_rule_157 (by decide) (fun c185 => ?_) (fun c185 => ?_)
              · skip
                have kc185 := b1_n.mp c185
                have r6 := kc185
                refine lv_iload hx hb dX8_rule_163 (lv_at hl 2 rfl) ?_
                refine lv_iconst (v := 2) hx hb dX8_rule_165 (by decide) ?_
                refine lv_icmp_ne (tgt := 179) hx hb dX8_rule_166 (by decide) (fun c186 => ?_) (fun c186 => ?_)
                · skip
                  have kc186 : ¬ (pq q 17) = 2 := fun h9 => c186 ((nI_eq (a := (pq q 17)) (b := 2) (by omega) (by omega)).mpr h9)
                  refine lv_iload hx hb dX8_rule_179 (lv_at hl 2 rfl) ?_
                  refine lv_iconst (v := 3) hx hb dX8_rule_181 (by decide) ?_
                  refine lv_icmp_lt (tgt := 198) hx hb dX8_rule_182 (by decide) (fun c187 => ?_) (fun c187 => ?_)
                  · skip
                    have kc187 : (pq q 17) < 3 := (nI_ltI (a := (pq q 17)) (b := 3) (by omega) (by omega)).mp c187
                    have r7 : ¬ ¬ mT7 ci am al pq t q := fun z => z ⟨fun z => absurd z kc186, fun z => absurd kc187 z⟩
                    refine lv_iload hx hb dX8_rule_198 (lv_at hl 2 rfl) ?_
                    refine lv_iconst (v := 2) hx hb dX8_rule_200 (by decide) ?_
                    refine lv_icmp_ne (tgt := 231) hx hb dX8_rule_201 (by decide) (fun c188 => ?_) (fun c188 => absurd c188 (fun h9 => absurd ((nI_eq (a := (pq q 17)) (b := 2) (by omega) (by omega)).mp h9) (kc186)))
                    refine lv_iconst (v := 0) hx hb dX8_rule_231 (by decide) ?_
                    refine xri hx hb hr hlocks hP hD hS ⟨m2170, g29171, g30172, g34173, g35174, g36175, rfl, ?_, ?_⟩ dX8_rule_232
                    · rw [mrl, pick_f r2, pick_f r3, pick_f r4, pick_f r5, pick_f r6, pick_f r7, pick_f (fun z => z (fun z9 => absurd z9 kc186))]
                      rfl
                    · trivial
                  · skip
                    have kc187 : ¬ (pq q 17) < 3 := fun h9 => c187 ((nI_ltI (a := (pq q 17)) (b := 3) (by omega) (by omega)).mpr h9)
                    refine lv_aload_n hx hb dX8_rule_185 rfl (lv_at hl 3 rfl) ?_
                    refine lv_iconst (v := 2) hx hb dX8_rule_186 (by decide) ?_
                    refine lv_iload_n hx hb dX8_rule_187 rfl (lv_at hl 4 rfl) ?_
                    refine lv_lload_n hx hb dX8_rule_188 rfl (lv_at hl 5 rfl) ?_
                    have hP := hP.sub (ws' := [] ++ [(mo, .inr (9, mOb ad th (nI kn) (nI rn) (nI m2170) (nI dp))), (ad 29, aI E 256 g29171), (ad 30, aI E 32 g30172), (ad 34, aI E 16 g34173), (ad 35, aI E 8 g35174), (ad 36, aI E 8 g36175)]) [0, 1, 2, 3, 4, 5] rfl
                    have hD := hD.sub (ws' := [] ++ [(mo, .inr (9, mOb ad th (nI kn) (nI rn) (nI m2170) (nI dp))), (ad 29, aI E 256 g29171), (ad 30, aI E 32 g30172), (ad 34, aI E 16 g34173), (ad 35, aI E 8 g35174), (ad 36, aI E 8 g36175)]) [0, 1, 2, 3, 4, 5] (by decide) rfl
                    refine xci (va_runV (As := [.int 2, .int (nI q), .long t]) (rest := []) ⟨hx, hb, hml, hown, hts⟩ (kX8_isTold l E mo ad th kn rn m2170 dp am al pq ci 2 q t (by first | assumption | omega) (by first | assumption | omega) (by first | assumption | omega) (by first | assumption | omega) (by first | assumption | omega) (by first | assumption | omega) H.size) (cwV 3 hts gX8_rule_X8_isTold rfl rfl rfl (by decide +kernel) ⟨Nat.le_of_ble_eq_true rfl, Nat.le_of_ble_eq_true rfl⟩) ⟨CP.blind, (va_recv hev.1 hP (ci := 9) (q0 := 0) rfl rfl), (xpre hev hz hA hP hD hS hR0 hap [0, 30, 7, 16, 17, 18, 12, 13] rfl)⟩ rfl rfl hl.1 rfl (lv_room (Nat.le_of_ble_eq_true rfl)) dX8_rule_189 ⟨Nat.le_of_ble_eq_true rfl, Nat.le_of_ble_eq_true rfl⟩) hP hD hS hA (fun r189 w190 H locs h191 hP hD hS => ?_)
                    obtain ⟨rfl, rfl, h191⟩ := h191
                    try dsimp only at h191
                    have hP : va_P E.1 vwCl [(mo, .inr (9, mOb ad th (nI kn) (nI rn) (nI m2170) (nI dp))), (ad 29, aI E 256 g29171), (ad 30, aI E 32 g30172), (ad 34, aI E 16 g34173), (ad 35, aI E 8 g35174), (ad 36, aI E 8 g36175)] H := hP
                    have hD : va_D A [(mo, .inr (9, mOb ad th (nI kn) (nI rn) (nI m2170) (nI dp))), (ad 29, aI E 256 g29171), (ad 30, aI E 32 g30172), (ad 34, aI E 16 g34173), (ad 35, aI E 8 g35174), (ad 36, aI E 8 g36175)] := hD
                    refine lv_if_ne (tgt := 198) hx hb dX8_rule_192 (by decide) (fun c192 => ?_) (fun c192 => ?_)
                    · skip
                      have kc192 := b1_n.mp c192
                      have r7 : ¬ ¬ mT7 ci am al pq t q := fun z => z ⟨fun z => absurd z kc186, fun _ => kc192⟩
                      refine lv_iload hx hb dX8_rule_198 (lv_at hl 2 rfl) ?_
                      refine lv_iconst (v := 2) hx hb dX8_rule_200 (by decide) ?_
                      refine lv_icmp_ne (tgt := 231) hx hb dX8_rule_201 (by decide) (fun c193 => ?_) (fun c193 => absurd c193 (fun h9 => absurd ((nI_eq (a := (pq q 17)) (b := 2) (by omega) (by omega)).mp h9) (kc186)))
                      refine lv_iconst (v := 0) hx hb dX8_rule_231 (by decide) ?_
                      refine xri hx hb hr hlocks hP hD hS ⟨m2170, g29171, g30172, g34173, g35174, g36175, rfl, ?_, ?_⟩ dX8_rule_232
                      · rw [mrl, pick_f r2, pick_f r3, pick_f r4, pick_f r5, pick_f r6, pick_f r7, pick_f (fun z => z (fun z9 => absurd z9 kc186))]
                        rfl
                      · trivial
                    · skip
                      have kc192 := b1_0.mp c192
                      refine lv_bipush (v := 7) hx hb dX8_rule_195 (by decide) ?_
                      refine xri hx hb hr hlocks hP hD hS ⟨m2170, g29171, g30172, g34173, g35174, g36175, rfl, ?_, ?_⟩ dX8_rule_197
                      · rw [mrl, pick_f r2, pick_f r3, pick_f r4, pick_f r5, pick_f r6, pick_t (fun z => kc192 (z.2 kc187))]
                        rfl
                      · trivial
                · skip
                  have kc186 : (pq q 17) = 2 := (nI_eq (a := (pq q 17)) (b := 2) (by omega) (by omega)).mp c186
                  refine lv_aload_n hx hb dX8_rule_169 rfl (lv_at hl 3 rfl) ?_
                  refine lv_iconst (v := 1) hx hb dX8_rule_170 (by decide) ?_
                  refine lv_iload_n hx hb dX8_rule_171 rfl (lv_at hl 4 rfl) ?_
                  refine lv_lload_n hx hb dX8_rule_172 rfl (lv_at hl 5 rfl) ?_
                  have hP := hP.sub (ws' := [] ++ [(mo, .inr (9, mOb ad th (nI kn) (nI rn) (nI m2170) (nI dp))), (ad 29, aI E 256 g29171), (ad 30, aI E 32 g30172), (ad 34, aI E 16 g34173), (ad 35, aI E 8 g35174), (ad 36, aI E 8 g36175)]) [0, 1, 2, 3, 4, 5] rfl
                  have hD := hD.sub (ws' := [] ++ [(mo, .inr (9, mOb ad th (nI kn) (nI rn) (nI m2170) (nI dp))), (ad 29, aI E 256 g29171), (ad 30, aI E 32 g30172), (ad 34, aI E 16 g34173), (ad 35, aI E 8 g35174), (ad 36, aI E 8 g36175)]) [0, 1, 2, 3, 4, 5] (by decide) rfl
                  refine xci (va_runV (As := [.int 1, .int (nI q), .long t]) (rest := []) ⟨hx, hb, hml, hown, hts⟩ (kX8_isTold l E mo ad th kn rn m2170 dp am al pq ci 1 q t (by first | assumption | omega) (by first | assumption | omega) (by first | assumption | omega) (by first | assumption | omega) (by first | assumption | omega) (by first | assumption | omega) H.size) (cwV 3 hts gX8_rule_X8_isTold rfl rfl rfl (by decide +kernel) ⟨Nat.le_of_ble_eq_true rfl, Nat.le_of_ble_eq_true rfl⟩) ⟨CP.blind, (va_recv hev.1 hP (ci := 9) (q0 := 0) rfl rfl), (xpre hev hz hA hP hD hS hR0 hap [0, 30, 7, 16, 17, 18, 12, 13] rfl)⟩ rfl rfl hl.1 rfl (lv_room (Nat.le_of_ble_eq_true rfl)) dX8_rule_173 ⟨Nat.le_of_ble_eq_true rfl, Nat.le_of_ble_eq_true rfl⟩) hP hD hS hA (fun r194 w195 H locs h196 hP hD hS => ?_)
                  obtain ⟨rfl, rfl, h196⟩ := h196
                  try dsimp only at h196
                  have hP : va_P E.1 vwCl [(mo, .inr (9, mOb ad th (nI kn) (nI rn) (nI m2170) (nI dp))), (ad 29, aI E 256 g29171), (ad 30, aI E 32 g30172), (ad 34, aI E 16 g34173), (ad 35, aI E 8 g35174), (ad 36, aI E 8 g36175)] H := hP
                  have hD : va_D A [(mo, .inr (9, mOb ad th (nI kn) (nI rn) (nI m2170) (nI dp))), (ad 29, aI E 256 g29171), (ad 30, aI E 32 g30172), (ad 34, aI E 16 g34173), (ad 35, aI E 8 g35174), (ad 36, aI E 8 g36175)] := hD
                  refine lv_if_eq (tgt := 195) hx hb dX8_rule_176 (by decide) (fun c197 => ?_) (fun c197 => ?_)
                  · skip
                    have kc197 := b1_0.mp c197
                    refine lv_bipush (v := 7) hx hb dX8_rule_195 (by decide) ?_
                    refine xri hx hb hr hlocks hP hD hS ⟨m2170, g29171, g30172, g34173, g35174, g36175, rfl, ?_, ?_⟩ dX8_rule_197
                    · rw [mrl, pick_f r2, pick_f r3, pick_f r4, pick_f r5, pick_f r6, pick_t (fun z => kc197 (z.1 kc186))]
                      rfl
                    · trivial
                  · skip
                    have kc197 := b1_n.mp c197
                    refine lv_iload hx hb dX8_rule_179 (lv_at hl 2 rfl) ?_
                    refine lv_iconst (v := 3) hx hb dX8_rule_181 (by decide) ?_
                    refine lv_icmp_lt (tgt := 198) hx hb dX8_rule_182 (by decide) (fun c198 => ?_) (fun c198 => absurd ((nI_ltI (a := (pq q 17)) (b := 3) (by omega) (by omega)).mpr (by omega)) c198)
                    have r7 : ¬ ¬ mT7 ci am al pq t q := fun z => z ⟨fun _ => kc197, fun z => absurd (show pq q 17 < 3 by omega) z⟩
                    refine lv_iload hx hb dX8_rule_198 (lv_at hl 2 rfl) ?_
                    refine lv_iconst (v := 2) hx hb dX8_rule_200 (by decide) ?_
                    refine lv_icmp_ne (tgt := 231) hx hb dX8_rule_201 (by decide) (fun c199 => absurd c199 (fun h9 => h9 ((nI_eq (a := (pq q 17)) (b := 2) (by omega) (by omega)).mpr (kc186)))) (fun c199 => ?_)
                    refine lv_aload_n hx hb dX8_rule_204 rfl (lv_at hl 3 rfl) ?_
                    refine xgt TX8_27 (v := .ref (ad 27)) hx hb hts hiX8 hown hev.1 hP 0 rfl (by decide) hf84 rfl dX8_rule_205 ?_
                    refine lv_iconst (v := 2) hx hb dX8_rule_208 (by decide) ?_
                    refine xiald (k := 2) hx hb hev.1 (xro hR0 hap hS) 24 1 rfl rfl (by omega) (by decide) dX8_rule_209 ?_
                    cases o200 : ci 2 with
                    | none =>
                      refine xtop (y := (-1)) ((hnw _ (by omega)).trans (nw_n o200)) ?_
                      refine lv_iconst (v := (-1)) hx hb dX8_rule_210 (by decide) ?_
                      refine lv_icmp_eq (tgt := 231) hx hb dX8_rule_211 (by decide) (fun c201 => ?_) (fun c201 => absurd (by decide) c201)
                      refine lv_iconst (v := 0) hx hb dX8_rule_231 (by decide) ?_
                      refine xri hx hb hr hlocks hP hD hS ⟨m2170, g29171, g30172, g34173, g35174, g36175, rfl, ?_, ?_⟩ dX8_rule_232
                      · rw [mrl, pick_f r2, pick_f r3, pick_f r4, pick_f r5, pick_f r6, pick_f r7, pick_f (fun z => z (fun _ k9 h9 => by rw [o200] at h9; cases h9))]
                        rfl
                      · trivial
                    | some k2 =>
                      have hkk2 : k2 < rn := hci _ _ o200
                      refine xtop (y := nI k2) ((hnw _ (by omega)).trans (nw_s o200)) ?_
                      obtain ⟨h10B, h12B, h15B, h18B, h22B, h24B, hb10B, hb12B, hb15B, hb18B, hb22B, hb24B⟩ := hmk k2 (hkk2)
                      refine lv_iconst (v := (-1)) hx hb dX8_rule_210 (by decide) ?_
                      refine lv_icmp_eq (tgt := 231) hx hb dX8_rule_211 (by decide) (fun c202 => absurd c202 (nI_ne1 (by omega))) (fun c202 => ?_)
                      refine lv_aload_n hx hb dX8_rule_214 rfl (lv_at hl 3 rfl) ?_
                      refine lv_aload_n hx hb dX8_rule_215 rfl (lv_at hl 3 rfl) ?_
                      refine xgt TX8_27 (v := .ref (ad 27)) hx hb hts hiX8 hown hev.1 hP 0 rfl (by decide) hf84 rfl dX8_rule_216 ?_
                      refine lv_iconst (v := 2) hx hb dX8_rule_219 (by decide) ?_
                      refine xiald (k := 2) hx hb hev.1 (xro hR0 hap hS) 24 1 rfl rfl (by omega) (by decide) dX8_rule_220 ?_
                      refine xtop (y := nI k2) ((hnw _ (by omega)).trans (nw_s o200)) ?_
                      refine lv_iload_n hx hb dX8_rule_221 rfl (lv_at hl 4 rfl) ?_
                      have hP := hP.sub (ws' := [] ++ [(mo, .inr (9, mOb ad th (nI kn) (nI rn) (nI m2170) (nI dp))), (ad 29, aI E 256 g29171), (ad 30, aI E 32 g30172), (ad 34, aI E 16 g34173), (ad 35, aI E 8 g35174), (ad 36, aI E 8 g36175)]) [0, 1, 2, 3, 4, 5] rfl
                      have hD := hD.sub (ws' := [] ++ [(mo, .inr (9, mOb ad th (nI kn) (nI rn) (nI m2170) (nI dp))), (ad 29, aI E 256 g29171), (ad 30, aI E 32 g30172), (ad 34, aI E 16 g34173), (ad 35, aI E 8 g35174), (ad 36, aI E 8 g36175)]) [0, 1, 2, 3, 4, 5] (by decide) rfl
                      refine xci (va_runV (As := [.int (nI k2), .int (nI q)]) (rest := []) ⟨hx, hb, hml, hown, hts⟩ (kX8_goesOn l E mo ad th kn rn m2170 dp am al pq k2 q (by first | assumption | omega) (by first | assumption | omega) (by first | assumption | omega) (by first | assumption | omega) H.size) (cwV 2 hts gX8_rule_X8_goesOn rfl rfl rfl (by decide +kernel) ⟨Nat.le_of_ble_eq_true rfl, Nat.le_of_ble_eq_true rfl⟩) ⟨CP.blind, (va_recv hev.1 hP (ci := 9) (q0 := 0) rfl rfl), (xpre hev hz hA hP hD hS hR0 hap [0, 16, 17, 18] rfl)⟩ rfl rfl hl.1 rfl (lv_room (Nat.le_of_ble_eq_true rfl)) dX8_rule_222 ⟨Nat.le_of_ble_eq_true rfl, Nat.le_of_ble_eq_true rfl⟩) hP hD hS hA (fun r203 w204 H locs h205 hP hD hS => ?_)
                      obtain ⟨rfl, rfl, h205⟩ := h205
                      try dsimp only at h205
                      have hP : va_P E.1 vwCl [(mo, .inr (9, mOb ad th (nI kn) (nI rn) (nI m2170) (nI dp))), (ad 29, aI E 256 g29171), (ad 30, aI E 32 g30172), (ad 34, aI E 16 g34173), (ad 35, aI E 8 g35174), (ad 36, aI E 8 g36175)] H := hP
                      have hD : va_D A [(mo, .inr (9, mOb ad th (nI kn) (nI rn) (nI m2170) (nI dp))), (ad 29, aI E 256 g29171), (ad 30, aI E 32 g30172), (ad 34, aI E 16 g34173), (ad 35, aI E 8 g35174), (ad 36, aI E 8 g36175)] := hD
                      refine lv_if_ne (tgt := 231) hx hb dX8_rule_225 (by decide) (fun c206 => ?_) (fun c206 => ?_)
                      · skip
                        have kc206 := b1_n.mp c206
                        refine lv_iconst (v := 0) hx hb dX8_rule_231 (by decide) ?_
                        refine xri hx hb hr hlocks hP hD hS ⟨m2170, g29171, g30172, g34173, g35174, g36175, rfl, ?_, ?_⟩ dX8_rule_232
                        · rw [mrl, pick_f r2, pick_f r3, pick_f r4, pick_f r5, pick_f r6, pick_f r7, pick_f (fun z => z (fun _ k9 h9 => by rw [o200] at h9; cases h9; exact kc206))]
                          rfl
                        · trivial
                      · skip
                        have kc206 := b1_0.mp c206
                        refine lv_bipush (v := 8) hx hb dX8_rule_228 (by decide) ?_
                        refine xri hx hb hr hlocks hP hD hS ⟨m2170, g29171, g30172, g34173, g35174, g36175, rfl, ?_, ?_⟩ dX8_rule_230
                        · rw [mrl, pick_f r2, pick_f r3, pick_f r4, pick_f r5, pick_f r6, pick_f r7, pick_t (fun z => kc206 (z kc186 k2 o200))]
                          rfl
                        · trivial
              · skip
                have kc185 := b1_0.mp c185
                refine lv_bipush (v := 6) hx hb dX8_rule_160 (by decide) ?_
                refine xri hx hb hr hlocks hP hD hS ⟨m2170, g29171, g30172, g34173, g35174, g36175, rfl, ?_, ?_⟩ dX8_rule_162
                · rw [mrl, pick_f r2, pick_f r3, pick_f r4, pick_f r5, pick_t (Classical.not_not.mp kc185)]
                  rfl
                · trivial
            · skip
              refine lv_iconst (v := 5) hx hb dX8_rule_149 (by decide) ?_
              refine xri hx hb hr hlocks hP hD hS ⟨m2170, g29171, g30172, g34173, g35174, g36175, rfl, ?_, ?_⟩ dX8_rule_150
              · rw [mrl, pick_f r2, pick_f r3, pick_f r4, pick_t (fun z => c181 (z.2 kc80))]
                rfl
              · trivial
          | some kw =>
            have hkkw : kw < rn := hci _ _ o178
            refine xtop (y := nI kw) ((hnw _ (by omega)).trans (nw_s o178)) ?_
            obtain ⟨h10W, h12W, h15W, h18W, h22W, h24W, hb10W, hb12W, hb15W, hb18W, hb22W, hb24W⟩ := hmk kw (hkkw)
            refine lv_iconst (v := (-1)) hx hb dX8_rule_89 (by decide) ?_
            refine lv_icmp_ne (tgt := 97) hx hb dX8_rule_90 (by decide) (fun c207 => ?_) (fun c207 => absurd c207 (nI_ne1 (by omega)))
            refine lv_aload_n hx hb dX8_rule_97 rfl (lv_at hl 2 rfl) ?_
            refine xgt TX8_11 (v := .ref (ad 11)) hx hb hts hiX8 hown hev.1 hP 0 rfl (by decide) hf36 rfl dX8_rule_98 ?_
            refine lv_aload_n hx hb dX8_rule_101 rfl (lv_at hl 2 rfl) ?_
            refine xgt TX8_27 (v := .ref (ad 27)) hx hb hts hiX8 hown hev.1 hP 0 rfl (by decide) hf84 rfl dX8_rule_102 ?_
            refine lv_iload hx hb dX8_rule_105 (lv_at hl 1 rfl) ?_
            refine xiald (k := (pq q 17)) hx hb hev.1 (xro hR0 hap hS) 24 1 rfl rfl (by omega) (by decide) dX8_rule_107 ?_
            refine xtop (y := nI kw) ((hnw _ (by omega)).trans (nw_s o178)) ?_
            refine xiald (k := (kw)) hx hb hev.1 (xro hR0 hap hS) 7 1 rfl rfl (by omega) (by decide) dX8_rule_108 ?_
            refine xtop (y := mWas ci am (pq q 17)) ((mWas_s o178).symm) ?_
            refine lv_istore (lv' := [(6, .int (mWas ci am (pq q 17))), (5, .int (nI k0)), (4, .int (nI (pq q 17))), (0, .ref mo), (1, .int (nI q)), (2, .long t)]) hx hb dX8_rule_109 hl (by decide) rfl (fun ls hl => ?_)
            refine lv_iload hx hb dX8_rule_111 (lv_at hl 2 rfl) ?_
            refine lv_if_ne (tgt := 138) hx hb dX8_rule_113 (by decide) (fun c208 => ?_) (fun c208 => absurd c208 (fun h9 => absurd ((nI_eq (a := (pq q 17)) (b := 0) (by omega) (by omega)).mp h9) (kc80)))
            refine lv_aload_n hx hb dX8_rule_138 rfl (lv_at hl 3 rfl) ?_
            refine xgt TX8_11 (v := .ref (ad 11)) hx hb hts hiX8 hown hev.1 hP 0 rfl (by decide) hf36 rfl dX8_rule_139 ?_
            refine lv_iload_n hx hb dX8_rule_142 rfl (lv_at hl 4 rfl) ?_
            refine xiald (k := (q)) hx hb hev.1 (xro hR0 hap hS) 7 1 rfl rfl (by omega) (by decide) dX8_rule_143 ?_
            refine lv_iload hx hb dX8_rule_144 (lv_at hl 0 rfl) ?_
            refine lv_icmp_ge (tgt := 151) hx hb dX8_rule_146 (by decide) (fun c209 => ?_) (fun c209 => ?_)
            · skip
              have r5 : ¬ ¬ mFol ci am pq q := fun z => z ⟨fun z => absurd z kc80, fun _ => c209⟩
              refine lv_aload_n hx hb dX8_rule_151 rfl (lv_at hl 3 rfl) ?_
              refine lv_iload_n hx hb dX8_rule_152 rfl (lv_at hl 4 rfl) ?_
              refine lv_lload_n hx hb dX8_rule_153 rfl (lv_at hl 5 rfl) ?_
              have hP := hP.sub (ws' := [] ++ [(mo, .inr (9, mOb ad th (nI kn) (nI rn) (nI m2170) (nI dp))), (ad 29, aI E 256 g29171), (ad 30, aI E 32 g30172), (ad 34, aI E 16 g34173), (ad 35, aI E 8 g35174), (ad 36, aI E 8 g36175)]) [0, 1, 2, 3, 4, 5] rfl
              have hD := hD.sub (ws' := [] ++ [(mo, .inr (9, mOb ad th (nI kn) (nI rn) (nI m2170) (nI dp))), (ad 29, aI E 256 g29171), (ad 30, aI E 32 g30172), (ad 34, aI E 16 g34173), (ad 35, aI E 8 g35174), (ad 36, aI E 8 g36175)]) [0, 1, 2, 3, 4, 5] (by decide) rfl
              refine xci (va_runV (As := [.int (nI q), .long t]) (rest := []) ⟨hx, hb, hml, hown, hts⟩ (kX8_isAlive l E mo ad th kn rn m2170 dp (al 14) q t (by first | assumption | omega) H.size) (cwV 2 hts gX8_rule_X8_isAlive rfl rfl rfl (by decide +kernel) ⟨Nat.le_of_ble_eq_true rfl, Nat.le_of_ble_eq_true rfl⟩) ⟨CP.blind, (va_recv hev.1 hP (ci := 9) (q0 := 0) rfl rfl), (xpre hev hz hA hP hD hS hR0 hap [0, 7] rfl)⟩ rfl rfl hl.1 rfl (lv_room (Nat.le_of_ble_eq_true rfl)) dX8_rule_154 ⟨Nat.le_of_ble_eq_true rfl, Nat.le_of_ble_eq_true rfl⟩) hP hD hS hA (fun r210 w211 H locs h212 hP hD hS => ?_)
              obtain ⟨rfl, rfl, h212⟩ := h212
              try dsimp only at h212
              have hP : va_P E.1 vwCl [(mo, .inr (9, mOb ad th (nI kn) (nI rn) (nI m2170) (nI dp))), (ad 29, aI E 256 g29171), (ad 30, aI E 32 g30172), (ad 34, aI E 16 g34173), (ad 35, aI E 8 g35174), (ad 36, aI E 8 g36175)] H := hP
              have hD : va_D A [(mo, .inr (9, mOb ad th (nI kn) (nI rn) (nI m2170) (nI dp))), (ad 29, aI E 256 g29171), (ad 30, aI E 32 g30172), (ad 34, aI E 16 g34173), (ad 35, aI E 8 g35174), (ad 36, aI E 8 g36175)] := hD
              refine lv_if_ne (tgt := 163) hx hb dX8_rule_157 (by decide) (fun c213 => ?_) (fun c213 => ?_)
              · skip
                have kc213 := b1_n.mp c213
                have r6 := kc213
                refine lv_iload hx hb dX8_rule_163 (lv_at hl 2 rfl) ?_
                refine lv_iconst (v := 2) hx hb dX8_rule_165 (by decide) ?_
                refine lv_icmp_ne (tgt := 179) hx hb dX8_rule_166 (by decide) (fun c214 => ?_) (fun c214 => ?_)
                · skip
                  have kc214 : ¬ (pq q 17) = 2 := fun h9 => c214 ((nI_eq (a := (pq q 17)) (b := 2) (by omega) (by omega)).mpr h9)
                  refine lv_iload hx hb dX8_rule_179 (lv_at hl 2 rfl) ?_
                  refine lv_iconst (v := 3) hx hb dX8_rule_181 (by decide) ?_
                  refine lv_icmp_lt (tgt := 198) hx hb dX8_rule_182 (by decide) (fun c215 => ?_) (fun c215 => ?_)
                  · skip
                    have kc215 : (pq q 17) < 3 := (nI_ltI (a := (pq q 17)) (b := 3) (by omega) (by omega)).mp c215
                    have r7 : ¬ ¬ mT7 ci am al pq t q := fun z => z ⟨fun z => absurd z kc214, fun z => absurd kc215 z⟩
                    refine lv_iload hx hb dX8_rule_198 (lv_at hl 2 rfl) ?_
                    refine lv_iconst (v := 2) hx hb dX8_rule_200 (by decide) ?_
                    refine lv_icmp_ne (tgt := 231) hx hb dX8_rule_201 (by decide) (fun c216 => ?_) (fun c216 => absurd c216 (fun h9 => absurd ((nI_eq (a := (pq q 17)) (b := 2) (by omega) (by omega)).mp h9) (kc214)))
                    refine lv_iconst (v := 0) hx hb dX8_rule_231 (by decide) ?_
                    refine xri hx hb hr hlocks hP hD hS ⟨m2170, g29171, g30172, g34173, g35174, g36175, rfl, ?_, ?_⟩ dX8_rule_232
                    · rw [mrl, pick_f r2, pick_f r3, pick_f r4, pick_f r5, pick_f r6, pick_f r7, pick_f (fun z => z (fun z9 => absurd z9 kc214))]
                      rfl
                    · trivial
                  · skip
                    have kc215 : ¬ (pq q 17) < 3 := fun h9 => c215 ((nI_ltI (a := (pq q 17)) (b := 3) (by omega) (by omega)).mpr h9)
                    refine lv_aload_n hx hb dX8_rule_185 rfl (lv_at hl 3 rfl) ?_
                    refine lv_iconst (v := 2) hx hb dX8_rule_186 (by decide) ?_
                    refine lv_iload_n hx hb dX8_rule_187 rfl (lv_at hl 4 rfl) ?_
                    refine lv_lload_n hx hb dX8_rule_188 rfl (lv_at hl 5 rfl) ?_
                    have hP := hP.sub (ws' := [] ++ [(mo, .inr (9, mOb ad th (nI kn) (nI rn) (nI m2170) (nI dp))), (ad 29, aI E 256 g29171), (ad 30, aI E 32 g30172), (ad 34, aI E 16 g34173), (ad 35, aI E 8 g35174), (ad 36, aI E 8 g36175)]) [0, 1, 2, 3, 4, 5] rfl
                    have hD := hD.sub (ws' := [] ++ [(mo, .inr (9, mOb ad th (nI kn) (nI rn) (nI m2170) (nI dp))), (ad 29, aI E 256 g29171), (ad 30, aI E 32 g30172), (ad 34, aI E 16 g34173), (ad 35, aI E 8 g35174), (ad 36, aI E 8 g36175)]) [0, 1, 2, 3, 4, 5] (by decide) rfl
                    refine xci (va_runV (As := [.int 2, .int (nI q), .long t]) (rest := []) ⟨hx, hb, hml, hown, hts⟩ (kX8_isTold l E mo ad th kn rn m2170 dp am al pq ci 2 q t (by first | assumption | omega) (by first | assumption | omega) (by first | assumption | omega) (by first | assumption | omega) (by first | assumption | omega) (by first | assumption | omega) H.size) (cwV 3 hts gX8_rule_X8_isTold rfl rfl rfl (by decide +kernel) ⟨Nat.le_of_ble_eq_true rfl, Nat.le_of_ble_eq_true rfl⟩) ⟨CP.blind, (va_recv hev.1 hP (ci := 9) (q0 := 0) rfl rfl), (xpre hev hz hA hP hD hS hR0 hap [0, 30, 7, 16, 17, 18, 12, 13] rfl)⟩ rfl rfl hl.1 rfl (lv_room (Nat.le_of_ble_eq_true rfl)) dX8_rule_189 ⟨Nat.le_of_ble_eq_true rfl, Nat.le_of_ble_eq_true rfl⟩) hP hD hS hA (fun r217 w218 H locs h219 hP hD hS => ?_)
                    obtain ⟨rfl, rfl, h219⟩ := h219
                    try dsimp only at h219
                    have hP : va_P E.1 vwCl [(mo, .inr (9, mOb ad th (nI kn) (nI rn) (nI m2170) (nI dp))), (ad 29, aI E 256 g29171), (ad 30, aI E 32 g30172), (ad 34, aI E 16 g34173), (ad 35, aI E 8 g35174), (ad 36, aI E 8 g36175)] H := hP
                    have hD : va_D A [(mo, .inr (9, mOb ad th (nI kn) (nI rn) (nI m2170) (nI dp))), (ad 29, aI E 256 g29171), (ad 30, aI E 32 g30172), (ad 34, aI E 16 g34173), (ad 35, aI E 8 g35174), (ad 36, aI E 8 g36175)] := hD
                    refine lv_if_ne (tgt := 198) hx hb dX8_rule_192 (by decide) (fun c220 => ?_) (fun c220 => ?_)
                    · skip
                      have kc220 := b1_n.mp c220
                      have r7 : ¬ ¬ mT7 ci am al pq t q := fun z => z ⟨fun z => absurd z kc214, fun _ => kc220⟩
                      refine lv_iload hx hb dX8_rule_198 (lv_at hl 2 rfl) ?_
                      refine lv_iconst (v := 2) hx hb dX8_rule_200 (by decide) ?_
                      refine lv_icmp_ne (tgt := 231) hx hb dX8_rule_201 (by decide) (fun c221 => ?_) (fun c221 => absurd c221 (fun h9 => absurd ((nI_eq (a := (pq q 17)) (b := 2) (by omega) (by omega)).mp h9) (kc214)))
                      refine lv_iconst (v := 0) hx hb dX8_rule_231 (by decide) ?_
                      refine xri hx hb hr hlocks hP hD hS ⟨m2170, g29171, g30172, g34173, g35174, g36175, rfl, ?_, ?_⟩ dX8_rule_232
                      · rw [mrl, pick_f r2, pick_f r3, pick_f r4, pick_f r5, pick_f r6, pick_f r7, pick_f (fun z => z (fun z9 => absurd z9 kc214))]
                        rfl
                      · trivial
                    · skip
                      have kc220 := b1_0.mp c220
                      refine lv_bipush (v := 7) hx hb dX8_rule_195 (by decide) ?_
                      refine xri hx hb hr hlocks hP hD hS ⟨m2170, g29171, g30172, g34173, g35174, g36175, rfl, ?_, ?_⟩ dX8_rule_197
                      · rw [mrl, pick_f r2, pick_f r3, pick_f r4, pick_f r5, pick_f r6, pick_t (fun z => kc220 (z.2 kc215))]
                        rfl
                      · trivial
                · skip
                  have kc214 : (pq q 17) = 2 := (nI_eq (a := (pq q 17)) (b := 2) (by omega) (by omega)).mp c214
                  refine lv_aload_n hx hb dX8_rule_169 rfl (lv_at hl 3 rfl) ?_
                  refine lv_iconst (v := 1) hx hb dX8_rule_170 (by decide) ?_
                  refine lv_iload_n hx hb dX8_rule_171 rfl (lv_at hl 4 rfl) ?_
                  refine lv_lload_n hx hb dX8_rule_172 rfl (lv_at hl 5 rfl) ?_
                  have hP := hP.sub (ws' := [] ++ [(mo, .inr (9, mOb ad th (nI kn) (nI rn) (nI m2170) (nI dp))), (ad 29, aI E 256 g29171), (ad 30, aI E 32 g30172), (ad 34, aI E 16 g34173), (ad 35, aI E 8 g35174), (ad 36, aI E 8 g36175)]) [0, 1, 2, 3, 4, 5] rfl
                  have hD := hD.sub (ws' := [] ++ [(mo, .inr (9, mOb ad th (nI kn) (nI rn) (nI m2170) (nI dp))), (ad 29, aI E 256 g29171), (ad 30, aI E 32 g30172), (ad 34, aI E 16 g34173), (ad 35, aI E 8 g35174), (ad 36, aI E 8 g36175)]) [0, 1, 2, 3, 4, 5] (by decide) rfl
                  refine xci (va_runV (As := [.int 1, .int (nI q), .long t]) (rest := []) ⟨hx, hb, hml, hown, hts⟩ (kX8_isTold l E mo ad th kn rn m2170 dp am al pq ci 1 q t (by first | assumption | omega) (by first | assumption | omega) (by first | assumption | omega) (by first | assumption | omega) (by first | assumption | omega) (by first | assumption | omega) H.size) (cwV 3 hts gX8_rule_X8_isTold rfl rfl rfl (by decide +kernel) ⟨Nat.le_of_ble_eq_true rfl, Nat.le_of_ble_eq_true rfl⟩) ⟨CP.blind, (va_recv hev.1 hP (ci := 9) (q0 := 0) rfl rfl), (xpre hev hz hA hP hD hS hR0 hap [0, 30, 7, 16, 17, 18, 12, 13] rfl)⟩ rfl rfl hl.1 rfl (lv_room (Nat.le_of_ble_eq_true rfl)) dX8_rule_173 ⟨Nat.le_of_ble_eq_true rfl, Nat.le_of_ble_eq_true rfl⟩) hP hD hS hA (fun r222 w223 H locs h224 hP hD hS => ?_)
                  obtain ⟨rfl, rfl, h224⟩ := h224
                  try dsimp only at h224
                  have hP : va_P E.1 vwCl [(mo, .inr (9, mOb ad th (nI kn) (nI rn) (nI m2170) (nI dp))), (ad 29, aI E 256 g29171), (ad 30, aI E 32 g30172), (ad 34, aI E 16 g34173), (ad 35, aI E 8 g35174), (ad 36, aI E 8 g36175)] H := hP
                  have hD : va_D A [(mo, .inr (9, mOb ad th (nI kn) (nI rn) (nI m2170) (nI dp))), (ad 29, aI E 256 g29171), (ad 30, aI E 32 g30172), (ad 34, aI E 16 g34173), (ad 35, aI E 8 g35174), (ad 36, aI E 8 g36175)] := hD
                  refine lv_if_eq (tgt := 195) hx hb dX8_rule_176 (by decide) (fun c225 => ?_) (fun c225 => ?_)
                  · skip
                    have kc225 := b1_0.mp c225
                    refine lv_bipush (v := 7) hx hb dX8_rule_195 (by decide) ?_
                    refine xri hx hb hr hlocks hP hD hS ⟨m2170, g29171, g30172, g34173, g35174, g36175, rfl, ?_, ?_⟩ dX8_rule_197
                    · rw [mrl, pick_f r2, pick_f r3, pick_f r4, pick_f r5, pick_f r6, pick_t (fun z => kc225 (z.1 kc214))]
                      rfl
                    · trivial
                  · skip
                    have kc225 := b1_n.mp c225
                    refine lv_iload hx hb dX8_rule_179 (lv_at hl 2 rfl) ?_
                    refine lv_iconst (v := 3) hx hb dX8_rule_181 (by decide) ?_
                    refine lv_icmp_lt (tgt := 198) hx hb dX8_rule_182 (by decide) (fun c226 => ?_) (fun c226 => absurd ((nI_ltI (a := (pq q 17)) (b := 3) (by omega) (by omega)).mpr (by omega)) c226)
                    have r7 : ¬ ¬ mT7 ci am al pq t q := fun z => z ⟨fun _ => kc225, fun z => absurd (show pq q 17 < 3 by omega) z⟩
                    refine lv_iload hx hb dX8_rule_198 (lv_at hl 2 rfl) ?_
                    refine lv_iconst (v := 2) hx hb dX8_rule_200 (by decide) ?_
                    refine lv_icmp_ne (tgt := 231) hx hb dX8_rule_201 (by decide) (fun c227 => absurd c227 (fun h9 => h9 ((nI_eq (a := (pq q 17)) (b := 2) (by omega) (by omega)).mpr (kc214)))) (fun c227 => ?_)
                    refine lv_aload_n hx hb dX8_rule_204 rfl (lv_at hl 3 rfl) ?_
                    refine xgt TX8_27 (v := .ref (ad 27)) hx hb hts hiX8 hown hev.1 hP 0 rfl (by decide) hf84 rfl dX8_rule_205 ?_
                    refine lv_iconst (v := 2) hx hb dX8_rule_208 (by decide) ?_
                    refine xiald (k := 2) hx hb hev.1 (xro hR0 hap hS) 24 1 rfl rfl (by omega) (by decide) dX8_rule_209 ?_
                    cases o228 : ci 2 with
                    | none =>
                      refine xtop (y := (-1)) ((hnw _ (by omega)).trans (nw_n o228)) ?_
                      refine lv_iconst (v := (-1)) hx hb dX8_rule_210 (by decide) ?_
                      refine lv_icmp_eq (tgt := 231) hx hb dX8_rule_211 (by decide) (fun c229 => ?_) (fun c229 => absurd (by decide) c229)
                      refine lv_iconst (v := 0) hx hb dX8_rule_231 (by decide) ?_
                      refine xri hx hb hr hlocks hP hD hS ⟨m2170, g29171, g30172, g34173, g35174, g36175, rfl, ?_, ?_⟩ dX8_rule_232
                      · rw [mrl, pick_f r2, pick_f r3, pick_f r4, pick_f r5, pick_f r6, pick_f r7, pick_f (fun z => z (fun _ k9 h9 => by rw [o228] at h9; cases h9))]
                        rfl
                      · trivial
                    | some k2 =>
                      have hkk2 : k2 < rn := hci _ _ o228
                      refine xtop (y := nI k2) ((hnw _ (by omega)).trans (nw_s o228)) ?_
                      obtain ⟨h10B, h12B, h15B, h18B, h22B, h24B, hb10B, hb12B, hb15B, hb18B, hb22B, hb24B⟩ := hmk k2 (hkk2)
                      refine lv_iconst (v := (-1)) hx hb dX8_rule_210 (by decide) ?_
                      refine lv_icmp_eq (tgt := 231) hx hb dX8_rule_211 (by decide) (fun c230 => absurd c230 (nI_ne1 (by omega))) (fun c230 => ?_)
                      refine lv_aload_n hx hb dX8_rule_214 rfl (lv_at hl 3 rfl) ?_
                      refine lv_aload_n hx hb dX8_rule_215 rfl (lv_at hl 3 rfl) ?_
                      refine xgt TX8_27 (v := .ref (ad 27)) hx hb hts hiX8 hown hev.1 hP 0 rfl (by decide) hf84 rfl dX8_rule_216 ?_
                      refine lv_iconst (v := 2) hx hb dX8_rule_219 (by decide) ?_
                      refine xiald (k := 2) hx hb hev.1 (xro hR0 hap hS) 24 1 rfl rfl (by omega) (by decide) dX8_rule_220 ?_
                      refine xtop (y := nI k2) ((hnw _ (by omega)).trans (nw_s o228)) ?_
                      refine lv_iload_n hx hb dX8_rule_221 rfl (lv_at hl 4 rfl) ?_
                      have hP := hP.sub (ws' := [] ++ [(mo, .inr (9, mOb ad th (nI kn) (nI rn) (nI m2170) (nI dp))), (ad 29, aI E 256 g29171), (ad 30, aI E 32 g30172), (ad 34, aI E 16 g34173), (ad 35, aI E 8 g35174), (ad 36, aI E 8 g36175)]) [0, 1, 2, 3, 4, 5] rfl
                      have hD := hD.sub (ws' := [] ++ [(mo, .inr (9, mOb ad th (nI kn) (nI rn) (nI m2170) (nI dp))), (ad 29, aI E 256 g29171), (ad 30, aI E 32 g30172), (ad 34, aI E 16 g34173), (ad 35, aI E 8 g35174), (ad 36, aI E 8 g36175)]) [0, 1, 2, 3, 4, 5] (by decide) rfl
                      refine xci (va_runV (As := [.int (nI k2), .int (nI q)]) (rest := []) ⟨hx, hb, hml, hown, hts⟩ (kX8_goesOn l E mo ad th kn rn m2170 dp am al pq k2 q (by first | assumption | omega) (by first | assumption | omega) (by first | assumption | omega) (by first | assumption | omega) H.size) (cwV 2 hts gX8_rule_X8_goesOn rfl rfl rfl (by decide +kernel) ⟨Nat.le_of_ble_eq_true rfl, Nat.le_of_ble_eq_true rfl⟩) ⟨CP.blind, (va_recv hev.1 hP (ci := 9) (q0 := 0) rfl rfl), (xpre hev hz hA hP hD hS hR0 hap [0, 16, 17, 18] rfl)⟩ rfl rfl hl.1 rfl (lv_room (Nat.le_of_ble_eq_true rfl)) dX8_rule_222 ⟨Nat.le_of_ble_eq_true rfl, Nat.le_of_ble_eq_true rfl⟩) hP hD hS hA (fun r231 w232 H locs h233 hP hD hS => ?_)
                      obtain ⟨rfl, rfl, h233⟩ := h233
                      try dsimp only at h233
                      have hP : va_P E.1 vwCl [(mo, .inr (9, mOb ad th (nI kn) (nI rn) (nI m2170) (nI dp))), (ad 29, aI E 256 g29171), (ad 30, aI E 32 g30172), (ad 34, aI E 16 g34173), (ad 35, aI E 8 g35174), (ad 36, aI E 8 g36175)] H := hP
                      have hD : va_D A [(mo, .inr (9, mOb ad th (nI kn) (nI rn) (nI m2170) (nI dp))), (ad 29, aI E 256 g29171), (ad 30, aI E 32 g30172), (ad 34, aI E 16 g34173), (ad 35, aI E 8 g35174), (ad 36, aI E 8 g36175)] := hD
                      refine lv_if_ne (tgt := 231) hx hb dX8_rule_225 (by decide) (fun c234 => ?_) (fun c234 => ?_)
                      · skip
                        have kc234 := b1_n.mp c234
                        refine lv_iconst (v := 0) hx hb dX8_rule_231 (by decide) ?_
                        refine xri hx hb hr hlocks hP hD hS ⟨m2170, g29171, g30172, g34173, g35174, g36175, rfl, ?_, ?_⟩ dX8_rule_232
                        · rw [mrl, pick_f r2, pick_f r3, pick_f r4, pick_f r5, pick_f r6, pick_f r7, pick_f (fun z => z (fun _ k9 h9 => by rw [o228] at h9; cases h9; exact kc234))]
                          rfl
                        · trivial
                      · skip
                        have kc234 := b1_0.mp c234
                        refine lv_bipush (v := 8) hx hb dX8_rule_228 (by decide) ?_
                        refine xri hx hb hr hlocks hP hD hS ⟨m2170, g29171, g30172, g34173, g35174, g36175, rfl, ?_, ?_⟩ dX8_rule_230
                        · rw [mrl, pick_f r2, pick_f r3, pick_f r4, pick_f r5, pick_f r6, pick_f r7, pick_t (fun z => kc234 (z kc214 k2 o228))]
                          rfl
                        · trivial
              · skip
                have kc213 := b1_0.mp c213
                refine lv_bipush (v := 6) hx hb dX8_rule_160 (by decide) ?_
                refine xri hx hb hr hlocks hP hD hS ⟨m2170, g29171, g30172, g34173, g35174, g36175, rfl, ?_, ?_⟩ dX8_rule_162
                · rw [mrl, pick_f r2, pick_f r3, pick_f r4, pick_f r5, pick_t (Classical.not_not.mp kc213)]
                  rfl
                · trivial
            · skip
              refine lv_iconst (v := 5) hx hb dX8_rule_149 (by decide) ?_
              refine xri hx hb hr hlocks hP hD hS ⟨m2170, g29171, g30172, g34173, g35174, g36175, rfl, ?_, ?_⟩ dX8_rule_150
              · rw [mrl, pick_f r2, pick_f r3, pick_f r4, pick_t (fun z => c209 (z.2 kc80))]
                rfl
              · trivial
        · skip
          have kc176 := b1_0.mp c176
          refine lv_iconst (v := 3) hx hb dX8_rule_62 (by decide) ?_
          refine xri hx hb hr hlocks hP hD hS ⟨m2170, g29171, g30172, g34173, g35174, g36175, rfl, ?_, ?_⟩ dX8_rule_63
          · rw [mrl, pick_f r2, pick_t (fun z => kc176 (z k0 o5))]
            rfl
          · trivial
      · skip
        have kc165 := b1_0.mp c165
        refine lv_iconst (v := 2) hx hb dX8_rule_41 (by decide) ?_
        refine xri hx hb hr hlocks hP hD hS ⟨mn, a29, a30, a34, a35, a36, rfl, ?_, ?_⟩ dX8_rule_42
        · rw [mrl, pick_t ⟨kc80, fun ⟨k9, h9, g9⟩ => by rw [o5] at h9; cases h9; exact kc165 g9⟩]
          rfl
        · trivial

abbrev pX8_ruleN (E : xE) (mo : Nat) (ad : Nat → Nat) (th : Int32) (kn : Nat) (rn : Nat) (mn : Nat) (dp : Nat) (y : Int32) (t : Int64) (r : Int32) (w : va_W) : Prop := w = [] ∧ r = 1 ∧ (True)
set_option maxHeartbeats 4000000 in
set_option maxRecDepth 100000 in
theorem kX8_ruleN (l : Launch) (E : xE) (mo : Nat) (ad : Nat → Nat) (th : Int32) (kn : Nat) (rn : Nat) (mn : Nat) (dp : Nat) (y : Int32) (t : Int64) (hrn : rn ≤ 24) (hno : ¬ isN y rn) : KT l yX8_rule wsX8_rule 1 21 0 0 E [] [(mo, .inr (9, mOb ad th (nI kn) (nI rn) (nI mn) (nI dp)))] [.ref mo, .int y, .long t] (QI E (pX8_ruleN E mo ad th kn rn mn dp y t)) := by
  refine KT.start (cc := cX8_rule) (maxL := 7) (ret := (some .int)) (by decide) rfl (Nat.le_of_ble_eq_true rfl) ?_
  intro p e s m below meth c A H hx hb hr hlocks hml hts hown hin hP hR0 hD hap hev hz hA hS ls hl
  have hl : lv_has ls 7 [(0, .ref mo), (1, .int y), (2, .long t)] := hl
  refine lv_aload_n hx hb dX8_rule_0 rfl (lv_at hl 0 rfl) ?_
  refine lv_iload_n hx hb dX8_rule_1 rfl (lv_at hl 1 rfl) ?_
  have hP := hP.sub (ws' := [] ++ []) [] rfl
  have hD := hD.sub (ws' := [] ++ []) [] (by decide) rfl
  refine xci (va_runV (As := [.int y]) (rest := []) ⟨hx, hb, hml, hown, hts⟩ (kX8_isRow l E mo ad th kn rn mn dp y (by first | assumption | omega) H.size) (cwV 1 hts gX8_rule_X8_isRow rfl rfl rfl (by decide +kernel) ⟨Nat.le_of_ble_eq_true rfl, Nat.le_of_ble_eq_true rfl⟩) ⟨CP.blind, (va_recv hev.1 (xro hR0 hap hS) (ci := 9) (q0 := 0) rfl rfl), (xpre hev hz hA hP hD hS hR0 hap [0] rfl)⟩ rfl rfl hl.1 rfl (lv_room (Nat.le_of_ble_eq_true rfl)) dX8_rule_2 ⟨Nat.le_of_ble_eq_true rfl, Nat.le_of_ble_eq_true rfl⟩) hP hD hS hA (fun r1 w2 H locs h3 hP hD hS => ?_)
  obtain ⟨rfl, rfl, h3⟩ := h3
  try dsimp only at h3
  have hP : va_P E.1 vwCl [] H := hP
  have hD : va_D A [] := hD
  refine lv_if_ne (tgt := 10) hx hb dX8_rule_5 (by decide) (fun c4 => absurd c4 (fun h9 => h9 (b1_0.mpr (hno)))) (fun c4 => ?_)
  refine lv_iconst (v := 1) hx hb dX8_rule_8 (by decide) ?_
  refine xri hx hb hr hlocks hP hD hS ⟨rfl, ?_, ?_⟩ dX8_rule_9
  · rfl
  · trivial
