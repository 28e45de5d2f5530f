abbrev pX8_digestAll (E : xE) (mo : Nat) (ad : Nat → Nat) (th : Int32) (kn : Nat) (rn : Nat) (mn : Nat) (dp : Nat) (a29 : Nat → Int32) (a30 : Nat → Int32) (a32 : Nat → Int32) (a33 : Nat → Int32) (a34 : Nat → Int32) (a35 : Nat → Int32) (a36 : Nat → Int32) (w : va_W) : Prop := ∃ (m2 : Nat) (g29 : Nat → Int32) (g30 : Nat → Int32) (g34 : Nat → Int32) (g35 : Nat → Int32) (g36 : Nat → Int32), w = [(mo, .inr (9, mOb ad th (nI kn) (nI rn) (nI m2) (nI dp))), (ad 29, aI E 256 g29), (ad 30, aI E 32 g30), (ad 34, aI E 16 g34), (ad 35, aI E 8 g35), (ad 36, aI E 8 g36)] ∧ ((∀ i, i < 8 → g36 i = shaU a29 mn i) ∧ ∀ k, k < 32 → g30 k = (jus (g36 (k / 4)) (nI (24 - 8 * (k % 4))) &&& 255))
set_option maxHeartbeats 8000000 in
set_option maxRecDepth 100000 in
theorem kX8_digestAll (l : Launch) (E : xE) (mo : Nat) (ad : Nat → Nat) (th : Int32) (kn : Nat) (rn : Nat) (mn : Nat) (dp : Nat) (a29 : Nat → Int32) (a30 : Nat → Int32) (a32 : Nat → Int32) (a33 : Nat → Int32) (a34 : Nat → Int32) (a35 : Nat → Int32) (a36 : Nat → Int32) (hmn : mn ≤ 119) (hfs : ∀ k, k < 8 → a32 k = sFS k) (hst : ∀ k, k < 64 → a33 k = sRC k) : KT l yX8_digestAll wsX8_digestAll 4 96 0 0 E [(mo, .inr (9, mOb ad th (nI kn) (nI rn) (nI mn) (nI dp))), (ad 29, aI E 256 a29), (ad 30, aI E 32 a30), (ad 34, aI E 16 a34), (ad 35, aI E 8 a35), (ad 36, aI E 8 a36)] [(ad 32, aI E 8 a32), (ad 33, aI E 64 a33)] [.ref mo] (QV E (pX8_digestAll E mo ad th kn rn mn dp a29 a30 a32 a33 a34 a35 a36)) := by
  refine KT.start (cc := cX8_digestAll) (maxL := 3) (ret := none) (by decide) rfl (Nat.le_of_ble_eq_true rfl) ?_
  intro p e s m below meth c A H hx hb hr hlocks hml hts hown hin hP hR0 hD hap hev hz hA hS ls hl
  have hl : lv_has ls 3 [(0, .ref mo)] := hl
  have hiX8 : ∀ w ∈ wsX80, w ∈ wsX8_digestAll := fun _ h => List.mem_cons_of_mem _ (List.mem_append_right _ h)
  have hf104 := hts (.fieldLink RX8 104 "SignQuorumModel" "start" "[I") (by decide +kernel)
  have hf180 := hts (.fieldLink RX8 180 "SignQuorumModel" "sum" "[I") (by decide +kernel)
  have hf206 := hts (.fieldLink RX8 206 "SignQuorumModel" "many" "I") (by decide +kernel)
  have hf90 := hts (.fieldLink RX8 90 "SignQuorumModel" "made" "[I") (by decide +kernel)
  have hk223 := hts (.constantLong RX8 223 (128)) (by decide +kernel)
  have hk229 := hts (.constantLong RX8 229 (8)) (by decide +kernel)
  refine lv_aload_n hx hb dX8_digestAll_0 rfl (lv_at hl 0 rfl) ?_
  refine xgt TX8_28 (v := .int (nI mn)) hx hb hts hiX8 hown hev.1 hP 0 rfl (by decide) hf206 rfl dX8_digestAll_1 ?_
  refine lv_istore_n (lv' := [(1, .int (nI mn)), (0, .ref mo)]) hx hb dX8_digestAll_4 rfl hl (by decide) rfl (fun ls hl => ?_)
  refine lv_aload_n hx hb dX8_digestAll_5 rfl (lv_at hl 1 rfl) ?_
  refine lv_ldc2 hx hb hown hk223 dX8_digestAll_6 ?_
  refine lv_iconst (v := 1) hx hb dX8_digestAll_9 (by decide) ?_
  have hP := hP.sub (ws' := [(mo, .inr (9, mOb ad th (nI kn) (nI rn) (nI mn) (nI dp))), (ad 29, aI E 256 a29)] ++ [(ad 30, aI E 32 a30), (ad 34, aI E 16 a34), (ad 35, aI E 8 a35), (ad 36, aI E 8 a36)]) [0, 1, 2, 3, 4, 5] rfl
  have hD := hD.sub (ws' := [(mo, .inr (9, mOb ad th (nI kn) (nI rn) (nI mn) (nI dp))), (ad 29, aI E 256 a29)] ++ [(ad 30, aI E 32 a30), (ad 34, aI E 16 a34), (ad 35, aI E 8 a35), (ad 36, aI E 8 a36)]) [0, 1, 2, 3, 4, 5] (by decide) rfl
  refine xcv (va_runV (As := [.long 128, .int 1]) (rest := []) ⟨hx, hb, hml, hown, hts⟩ (kX8_put1 l E mo ad th kn rn mn dp a29 128 (by first | assumption | omega) H.size) (cwV 2 hts gX8_digestAll_X8_put rfl rfl rfl (by decide +kernel) ⟨Nat.le_of_ble_eq_true rfl, Nat.le_of_ble_eq_true rfl⟩) ⟨CP.blind, (va_recv hev.1 hP.left (ci := 9) (q0 := 0) rfl rfl), (xpre hev hz hA hP hD hS hR0 hap [] rfl)⟩ rfl rfl hl.1 rfl (lv_room (Nat.le_of_ble_eq_true rfl)) dX8_digestAll_10 ⟨Nat.le_of_ble_eq_true rfl, Nat.le_of_ble_eq_true rfl⟩) hP hD hS hA (fun w2 H locs h3 hP hD hS => ?_)
  obtain ⟨g4, rfl, h3⟩ := h3
  try dsimp only at h3
  have hP : va_P E.1 vwCl [(mo, .inr (9, mOb ad th (nI kn) (nI rn) (nI (mn + 1)) (nI dp))), (ad 29, aI E 256 g4), (ad 30, aI E 32 a30), (ad 34, aI E 16 a34), (ad 35, aI E 8 a35), (ad 36, aI E 8 a36)] H := hP
  have hD : va_D A [(mo, .inr (9, mOb ad th (nI kn) (nI rn) (nI (mn + 1)) (nI dp))), (ad 29, aI E 256 g4), (ad 30, aI E 32 a30), (ad 34, aI E 16 a34), (ad 35, aI E 8 a35), (ad 36, aI E 8 a36)] := hD
  have loop13 : ∀ (fz : Nat) (M : Nat) (g : Nat → Int32), (mn + 1 ≤ M ∧ M ≤ (if mn + 9 ≤ 64 then 56 else 120) ∧ M ≤ 120) → (∀ j, j < M → g j = if j < mn then a29 j else if j = mn then 128 else 0) → (120 - M < fz) → ∀ (H : Heap) (locs : List Loc), va_P E.1 vwCl [(mo, .inr (9, mOb ad th (nI kn) (nI rn) (nI M) (nI dp))), (ad 29, aI E 256 g), (ad 30, aI E 32 a30), (ad 34, aI E 16 a34), (ad 35, aI E 8 a35), (ad 36, aI E 8 a36)] H → va_D A [(mo, .inr (9, mOb ad th (nI kn) (nI rn) (nI M) (nI dp))), (ad 29, aI E 256 g), (ad 30, aI E 32 a30), (ad 34, aI E 16 a34), (ad 35, aI E 8 a35), (ad 36, aI E 8 a36)] → va_S A s.heap H locs → ∀ ls : Array Slot, lv_has ls 3 [(0, .ref mo), (1, .int (nI mn))] → W p l e ({ frames := 4, cells := 0, slots := 0, locals := 96 } : Room) s m ([.ref mo] : List Value).toArray below meth c H locs 0 0 (MQ below (QV E (pX8_digestAll E mo ad th kn rn mn dp a29 a30 a32 a33 a34 a35 a36) A) ([.ref mo] : List Value).toArray s 0 0 A) (F0 m 13 ls []) := by
    intro fz
    induction fz with
    | zero =>
      intro M g hM hg hfuel
      exact absurd hfuel (by omega)
    | succ fz ih =>
      intro M g hM hg hfuel H locs hP hD hS ls hl
      refine lv_aload_n hx hb dX8_digestAll_13 rfl (lv_at hl 0 rfl) ?_
      refine xgt TX8_28 (v := .int (nI M)) hx hb hts hiX8 hown hev.1 hP 0 rfl (by decide) hf206 rfl dX8_digestAll_14 ?_
      refine lv_bipush (v := 64) hx hb dX8_digestAll_17 (by decide) ?_
      refine lv_irem hx hb dX8_digestAll_19 (by decide) ?_
      refine xtop (y := nI (M % 64)) (pk_rem (a := M) (d := 64) (by omega) (by decide) (by decide)) ?_
      refine lv_bipush (v := 56) hx hb dX8_digestAll_20 (by decide) ?_
      refine lv_icmp_eq (tgt := 34) hx hb dX8_digestAll_22 (by decide) (fun c5 => ?_) (fun c5 => ?_)
      · skip
        have kc5 : (M % 64) = 56 := (nI_eq (a := (M % 64)) (b := 56) (by omega) (by omega)).mp c5
        rcases (show (M = 56 ∧ mn + 9 ≤ 64) ∨ (M = 120 ∧ ¬ mn + 9 ≤ 64) by have q := hM.2.1; split at q <;> omega) with ⟨rfl, hsz⟩ | ⟨rfl, hsz⟩
        · skip
          refine lv_aload_n hx hb dX8_digestAll_34 rfl (lv_at hl 0 rfl) ?_
          refine lv_ldc2 hx hb hown hk229 dX8_digestAll_35 ?_
          refine lv_iload_n hx hb dX8_digestAll_38 rfl (lv_at hl 1 rfl) ?_
          refine lv_i2l (v := (nI mn).toInt64) hx hb dX8_digestAll_39 rfl ?_
          refine lv_lmul hx hb dX8_digestAll_40 ?_
          refine lv_bipush (v := 8) hx hb dX8_digestAll_41 (by decide) ?_
          have hP := hP.sub (ws' := [(mo, .inr (9, mOb ad th (nI kn) (nI rn) (nI 56) (nI dp))), (ad 29, aI E 256 g)] ++ [(ad 30, aI E 32 a30), (ad 34, aI E 16 a34), (ad 35, aI E 8 a35), (ad 36, aI E 8 a36)]) [0, 1, 2, 3, 4, 5] rfl
          have hD := hD.sub (ws' := [(mo, .inr (9, mOb ad th (nI kn) (nI rn) (nI 56) (nI dp))), (ad 29, aI E 256 g)] ++ [(ad 30, aI E 32 a30), (ad 34, aI E 16 a34), (ad 35, aI E 8 a35), (ad 36, aI E 8 a36)]) [0, 1, 2, 3, 4, 5] (by decide) rfl
          refine xcv (va_runV (As := [.long (8 * ((nI mn).toInt64)), .int 8]) (rest := []) ⟨hx, hb, hml, hown, hts⟩ (kX8_put8 l E mo ad th kn rn 56 dp g (8 * ((nI mn).toInt64)) (by first | assumption | omega) H.size) (cwV 2 hts gX8_digestAll_X8_put rfl rfl rfl (by decide +kernel) ⟨Nat.le_of_ble_eq_true rfl, Nat.le_of_ble_eq_true rfl⟩) ⟨CP.blind, (va_recv hev.1 hP.left (ci := 9) (q0 := 0) rfl rfl), (xpre hev hz hA hP hD hS hR0 hap [] rfl)⟩ rfl rfl hl.1 rfl (lv_room (Nat.le_of_ble_eq_true rfl)) dX8_digestAll_43 ⟨Nat.le_of_ble_eq_true rfl, Nat.le_of_ble_eq_true rfl⟩) hP hD hS hA (fun w7 H locs h8 hP hD hS => ?_)
          obtain ⟨g9, rfl, h8⟩ := h8
          try dsimp only at h8
          try rw [show (56 + 8 : Nat) = 64 by omega] at hP hD
          have hP : va_P E.1 vwCl [(mo, .inr (9, mOb ad th (nI kn) (nI rn) (nI 64) (nI dp))), (ad 29, aI E 256 g9), (ad 30, aI E 32 a30), (ad 34, aI E 16 a34), (ad 35, aI E 8 a35), (ad 36, aI E 8 a36)] H := hP
          have hD : va_D A [(mo, .inr (9, mOb ad th (nI kn) (nI rn) (nI 64) (nI dp))), (ad 29, aI E 256 g9), (ad 30, aI E 32 a30), (ad 34, aI E 16 a34), (ad 35, aI E 8 a35), (ad 36, aI E 8 a36)] := hD
          refine lv_iconst (v := 0) hx hb dX8_digestAll_46 (by decide) ?_
          refine lv_istore_n (lv' := [(2, .int 0), (0, .ref mo), (1, .int (nI mn))]) hx hb dX8_digestAll_47 rfl hl (by decide) rfl (fun ls hl => ?_)
          have loop48 : ∀ (fz : Nat) (i2 : Nat) (s36 : Nat → Int32), (i2 ≤ 8) → (∀ j, j < i2 → s36 j = sFS j) → (8 - i2 < fz) → ∀ (H : Heap) (locs : List Loc), va_P E.1 vwCl [(mo, .inr (9, mOb ad th (nI kn) (nI rn) (nI 64) (nI dp))), (ad 29, aI E 256 g9), (ad 30, aI E 32 a30), (ad 34, aI E 16 a34), (ad 35, aI E 8 a35), (ad 36, aI E 8 s36)] H → va_D A [(mo, .inr (9, mOb ad th (nI kn) (nI rn) (nI 64) (nI dp))), (ad 29, aI E 256 g9), (ad 30, aI E 32 a30), (ad 34, aI E 16 a34), (ad 35, aI E 8 a35), (ad 36, aI E 8 s36)] → va_S A s.heap H locs → ∀ ls : Array Slot, lv_has ls 3 [(2, .int (nI i2)), (0, .ref mo)] → W p l e ({ frames := 4, cells := 0, slots := 0, locals := 96 } : Room) s m ([.ref mo] : List Value).toArray below meth c H locs 0 0 (MQ below (QV E (pX8_digestAll E mo ad th kn rn mn dp a29 a30 a32 a33 a34 a35 a36) A) ([.ref mo] : List Value).toArray s 0 0 A) (F0 m 48 ls []) := by
            intro fz
            induction fz with
            | zero =>
              intro i2 s36 hi2 hg2 hfuel
              exact absurd hfuel (by omega)
            | succ fz ih =>
              intro i2 s36 hi2 hg2 hfuel H locs hP hD hS ls hl
              refine lv_iload_n hx hb dX8_digestAll_48 rfl (lv_at hl 0 rfl) ?_
              refine lv_bipush (v := 8) hx hb dX8_digestAll_49 (by decide) ?_
              refine lv_icmp_ge (tgt := 72) hx hb dX8_digestAll_51 (by decide) (fun c10 => ?_) (fun c10 => ?_)
              · skip
                have kc10 : 8 ≤ i2 := (nI_leI (a := 8) (b := i2) (by omega) (by omega)).mp c10
                have hpad := padU_of rfl (by omega) hg h8
                have hs8 : ∀ j, j < 8 → s36 j = sFS j := fun j hj => hg2 j (by omega)
                refine lv_iconst (v := 0) hx hb dX8_digestAll_72 (by decide) ?_
                refine lv_istore_n (lv' := [(2, .int 0), (0, .ref mo)]) hx hb dX8_digestAll_73 rfl hl (by decide) rfl (fun ls hl => ?_)
                refine lv_iload_n hx hb dX8_digestAll_74 rfl (lv_at hl 0 rfl) ?_
                refine lv_aload_n hx hb dX8_digestAll_75 rfl (lv_at hl 1 rfl) ?_
                refine xgt TX8_28 (v := .int (nI 64)) hx hb hts hiX8 hown hev.1 hP 0 rfl (by decide) hf206 rfl dX8_digestAll_76 ?_
                refine lv_icmp_ge (tgt := 93) hx hb dX8_digestAll_79 (by decide) (fun c11 => absurd c11 (by decide)) (fun c11 => ?_)
                refine lv_aload_n hx hb dX8_digestAll_82 rfl (lv_at hl 1 rfl) ?_
                refine lv_iload_n hx hb dX8_digestAll_83 rfl (lv_at hl 0 rfl) ?_
                have hP := hP.sub (ws' := [(ad 34, aI E 16 a34), (ad 35, aI E 8 a35), (ad 36, aI E 8 s36)] ++ [(mo, .inr (9, mOb ad th (nI kn) (nI rn) (nI 64) (nI dp))), (ad 29, aI E 256 g9), (ad 30, aI E 32 a30)]) [3, 4, 5, 0, 1, 2] rfl
                have hD := hD.sub (ws' := [(ad 34, aI E 16 a34), (ad 35, aI E 8 a35), (ad 36, aI E 8 s36)] ++ [(mo, .inr (9, mOb ad th (nI kn) (nI rn) (nI 64) (nI dp))), (ad 29, aI E 256 g9), (ad 30, aI E 32 a30)]) [3, 4, 5, 0, 1, 2] (by decide) rfl
                refine xcv (va_runV (As := [.int 0]) (rest := []) ⟨hx, hb, hml, hown, hts⟩ (kX8_block l E mo ad th kn rn 64 dp g9 a33 a34 a35 s36 0 (by first | assumption | omega) (by first | assumption | omega) H.size) (cwV 1 hts gX8_digestAll_X8_block rfl rfl rfl (by decide +kernel) ⟨Nat.le_of_ble_eq_true rfl, Nat.le_of_ble_eq_true rfl⟩) ⟨CP.blind, (va_recv hev.1 hP (ci := 9) (q0 := 3) rfl rfl), (xpre hev hz hA hP hD hS hR0 hap [0, 1, 4] rfl)⟩ rfl rfl hl.1 rfl (lv_room (Nat.le_of_ble_eq_true rfl)) dX8_digestAll_84 ⟨Nat.le_of_ble_eq_true rfl, Nat.le_of_ble_eq_true rfl⟩) hP hD hS hA (fun w13 H locs h14 hP hD hS => ?_)
                obtain ⟨g3415, g3516, g3617, rfl, h14⟩ := h14
                try dsimp only at h14
                have hP : va_P E.1 vwCl [(ad 34, aI E 16 g3415), (ad 35, aI E 8 g3516), (ad 36, aI E 8 g3617), (mo, .inr (9, mOb ad th (nI kn) (nI rn) (nI 64) (nI dp))), (ad 29, aI E 256 g9), (ad 30, aI E 32 a30)] H := hP
                have hD : va_D A [(ad 34, aI E 16 g3415), (ad 35, aI E 8 g3516), (ad 36, aI E 8 g3617), (mo, .inr (9, mOb ad th (nI kn) (nI rn) (nI 64) (nI dp))), (ad 29, aI E 256 g9), (ad 30, aI E 32 a30)] := hD
                refine lv_iinc (v := 64) (lv' := [(2, .int 64), (0, .ref mo)]) hx hb dX8_digestAll_87 hl (k := 0) rfl (by decide) (by decide) rfl (fun ls hl => ?_)
                refine lv_goto (tgt := 74) hx hb dX8_digestAll_90 (by decide) ?_
                refine lv_iload_n hx hb dX8_digestAll_74 rfl (lv_at hl 0 rfl) ?_
                refine lv_aload_n hx hb dX8_digestAll_75 rfl (lv_at hl 1 rfl) ?_
                refine xgt TX8_28 (v := .int (nI 64)) hx hb hts hiX8 hown hev.1 hP 3 rfl (by decide) hf206 rfl dX8_digestAll_76 ?_
                refine lv_icmp_ge (tgt := 93) hx hb dX8_digestAll_79 (by decide) (fun c18 => ?_) (fun c18 => absurd (by decide) c18)
                have hend : ∀ i, i < 8 → g3617 i = shaU a29 mn i := fun i hi => by rw [shaU, if_pos hsz, h14 i hi]; exact blk_congr hs8 (mwd_congr hpad (by decide)) i hi
                refine lv_iconst (v := 0) hx hb dX8_digestAll_93 (by decide) ?_
                refine lv_istore_n (lv' := [(2, .int 0), (0, .ref mo)]) hx hb dX8_digestAll_94 rfl hl (by decide) rfl (fun ls hl => ?_)
                have loop95 : ∀ (fz : Nat) (i3 : Nat) (m30 : Nat → Int32), (i3 ≤ 32) → (∀ k, k < i3 → m30 k = (jus (g3617 (k / 4)) (nI (24 - 8 * (k % 4))) &&& 255)) → (32 - i3 < fz) → ∀ (H : Heap) (locs : List Loc), va_P E.1 vwCl [(ad 34, aI E 16 g3415), (ad 35, aI E 8 g3516), (ad 36, aI E 8 g3617), (mo, .inr (9, mOb ad th (nI kn) (nI rn) (nI 64) (nI dp))), (ad 29, aI E 256 g9), (ad 30, aI E 32 m30)] H → va_D A [(ad 34, aI E 16 g3415), (ad 35, aI E 8 g3516), (ad 36, aI E 8 g3617), (mo, .inr (9, mOb ad th (nI kn) (nI rn) (nI 64) (nI dp))), (ad 29, aI E 256 g9), (ad 30, aI E 32 m30)] → va_S A s.heap H locs → ∀ ls : Array Slot, lv_has ls 3 [(2, .int (nI i3)), (0, .ref mo)] → W p l e ({ frames := 4, cells := 0, slots := 0, locals := 96 } : Room) s m ([.ref mo] : List Value).toArray below meth c H locs 0 0 (MQ below (QV E (pX8_digestAll E mo ad th kn rn mn dp a29 a30 a32 a33 a34 a35 a36) A) ([.ref mo] : List Value).toArray s 0 0 A) (F0 m 95 ls []) := by
                  intro fz
                  induction fz with
                  | zero =>
                    intro i3 m30 hi3 hg3 hfuel
                    exact absurd hfuel (by omega)
                  | succ fz ih =>
                    intro i3 m30 hi3 hg3 hfuel H locs hP hD hS ls hl
                    refine lv_iload_n hx hb dX8_digestAll_95 rfl (lv_at hl 0 rfl) ?_
                    refine lv_bipush (v := 32) hx hb dX8_digestAll_96 (by decide) ?_
                    refine lv_icmp_ge (tgt := 135) hx hb dX8_digestAll_98 (by decide) (fun c19 => ?_) (fun c19 => ?_)
                    · skip
                      have kc19 : 32 ≤ i3 := (nI_leI (a := 32) (b := i3) (by omega) (by omega)).mp c19
                      refine xrv hx hb hr hlocks (hP.sub (ws' := [(mo, .inr (9, mOb ad th (nI kn) (nI rn) (nI 64) (nI dp))), (ad 29, aI E 256 g9), (ad 30, aI E 32 m30), (ad 34, aI E 16 g3415), (ad 35, aI E 8 g3516), (ad 36, aI E 8 g3617)]) [3, 4, 5, 0, 1, 2] rfl) (hD.sub (ws' := [(mo, .inr (9, mOb ad th (nI kn) (nI rn) (nI 64) (nI dp))), (ad 29, aI E 256 g9), (ad 30, aI E 32 m30), (ad 34, aI E 16 g3415), (ad 35, aI E 8 g3516), (ad 36, aI E 8 g3617)]) [3, 4, 5, 0, 1, 2] (by decide) rfl) hS ⟨64, g9, m30, g3415, g3516, g3617, rfl, ?_⟩ dX8_digestAll_135
                      exact ⟨hend, fun k hk => hg3 k (by omega)⟩
                    · skip
                      have kc19 : ¬ 32 ≤ i3 := fun h9 => c19 ((nI_leI (a := 32) (b := i3) (by omega) (by omega)).mpr h9)
                      refine lv_aload_n hx hb dX8_digestAll_101 rfl (lv_at hl 1 rfl) ?_
                      refine xgt TX8_30 (v := .ref (ad 30)) hx hb hts hiX8 hown hev.1 hP 3 rfl (by decide) hf90 rfl dX8_digestAll_102 ?_
                      refine lv_iload_n hx hb dX8_digestAll_105 rfl (lv_at hl 0 rfl) ?_
                      refine lv_aload_n hx hb dX8_digestAll_106 rfl (lv_at hl 1 rfl) ?_
                      refine xgt TX8_36 (v := .ref (ad 36)) hx hb hts hiX8 hown hev.1 hP 3 rfl (by decide) hf180 rfl dX8_digestAll_107 ?_
                      refine lv_iload_n hx hb dX8_digestAll_110 rfl (lv_at hl 0 rfl) ?_
                      refine lv_iconst (v := 4) hx hb dX8_digestAll_111 (by decide) ?_
                      refine lv_idiv hx hb dX8_digestAll_112 (by decide) ?_
                      refine xtop (y := nI (i3 / 4)) (pk_div (a := i3) (d := 4) (by omega) (by decide) (by decide)) ?_
                      refine xiald (k := (i3 / 4)) hx hb hev.1 hP 2 1 rfl rfl (by omega) (by decide) dX8_digestAll_113 ?_
                      refine lv_bipush (v := 24) hx hb dX8_digestAll_114 (by decide) ?_
                      refine lv_bipush (v := 8) hx hb dX8_digestAll_116 (by decide) ?_
                      refine lv_iload_n hx hb dX8_digestAll_118 rfl (lv_at hl 0 rfl) ?_
                      refine lv_iconst (v := 4) hx hb dX8_digestAll_119 (by decide) ?_
                      refine lv_irem hx hb dX8_digestAll_120 (by decide) ?_
                      refine xtop (y := nI (i3 % 4)) (pk_rem (a := i3) (d := 4) (by omega) (by decide) (by decide)) ?_
                      refine lv_imul hx hb dX8_digestAll_121 ?_
                      refine xtop (y := nI (8 * (i3 % 4))) (pk_mul _ _) ?_
                      refine lv_isub hx hb dX8_digestAll_122 ?_
                      refine xtop (y := nI (24 - (8 * (i3 % 4)))) (pk_sub (a := 24) (b := (8 * (i3 % 4))) (by omega)) ?_
                      refine lv_iushr (v := ((g3617 (i3 / 4)).toUInt32 >>> ((nI (24 - (8 * (i3 % 4)))).toUInt32 &&& Int32.toUInt32 31)).toInt32) hx hb dX8_digestAll_123 rfl ?_
                      refine lv_topi (fun v20 ev20 => ?_)
                      refine lv_sipush (v := 255) hx hb dX8_digestAll_124 (by decide) ?_
                      refine lv_iand hx hb dX8_digestAll_127 ?_
                      refine xiast (k := i3) hx hb hev.1 hP hD hS 5 1 rfl rfl (by omega) (by decide) dX8_digestAll_128 (fun H locs hP hD hS => ?_)
                      obtain ⟨f21, ef21⟩ : ∃ y9_ : Nat → Int32, y9_ = upd m30 i3 (v20 &&& 255) := ⟨_, rfl⟩
                      rw [← ef21] at hP hD
                      have hP : va_P E.1 vwCl [(ad 34, aI E 16 g3415), (ad 35, aI E 8 g3516), (ad 36, aI E 8 g3617), (mo, .inr (9, mOb ad th (nI kn) (nI rn) (nI 64) (nI dp))), (ad 29, aI E 256 g9), (ad 30, aI E 32 f21)] H := hP
                      have hD : va_D A [(ad 34, aI E 16 g3415), (ad 35, aI E 8 g3516), (ad 36, aI E 8 g3617), (mo, .inr (9, mOb ad th (nI kn) (nI rn) (nI 64) (nI dp))), (ad 29, aI E 256 g9), (ad 30, aI E 32 f21)] := hD
                      refine lv_iinc (v := nI (i3 + 1)) (lv' := [(2, .int (nI (i3 + 1))), (0, .ref mo)]) hx hb dX8_digestAll_129 hl (k := 0) rfl ((nI_add i3 1).trans (congrArg nI (by omega))) (by decide) rfl (fun ls hl => ?_)
                      refine lv_goto (tgt := 95) hx hb dX8_digestAll_132 (by decide) ?_
                      exact ih  (i3 + 1) f21 (by omega) (lt_s (fun j hj => by rw [ef21, upd_ne (by omega)]; exact hg3 j hj) (by rw [ef21, upd_self]; subst_vars; rfl)) (by omega) _ _ hP hD hS ls (lv_sub hl [0, 1] rfl)
                exact loop95 33 0 a30 (by omega) (fun _ h9 => absurd h9 (by omega)) (by omega) _ _ hP hD hS ls (lv_sub hl [0, 1] rfl)
              · skip
                have kc10 : ¬ 8 ≤ i2 := fun h9 => c10 ((nI_leI (a := 8) (b := i2) (by omega) (by omega)).mpr h9)
                refine lv_aload_n hx hb dX8_digestAll_54 rfl (lv_at hl 1 rfl) ?_
                refine xgt TX8_36 (v := .ref (ad 36)) hx hb hts hiX8 hown hev.1 hP 0 rfl (by decide) hf180 rfl dX8_digestAll_55 ?_
                refine lv_iload_n hx hb dX8_digestAll_58 rfl (lv_at hl 0 rfl) ?_
                refine lv_aload_n hx hb dX8_digestAll_59 rfl (lv_at hl 1 rfl) ?_
                refine xgt TX8_32 (v := .ref (ad 32)) hx hb hts hiX8 hown hev.1 hP 0 rfl (by decide) hf104 rfl dX8_digestAll_60 ?_
                refine lv_iload_n hx hb dX8_digestAll_63 rfl (lv_at hl 0 rfl) ?_
                refine xiald (k := (i2)) hx hb hev.1 (xro hR0 hap hS) 0 1 rfl rfl (by omega) (by decide) dX8_digestAll_64 ?_
                refine xiast (k := i2) hx hb hev.1 hP hD hS 5 1 rfl rfl (by omega) (by decide) dX8_digestAll_65 (fun H locs hP hD hS => ?_)
                obtain ⟨f22, ef22⟩ : ∃ y9_ : Nat → Int32, y9_ = upd s36 i2 (a32 i2) := ⟨_, rfl⟩
                rw [← ef22] at hP hD
                have hP : va_P E.1 vwCl [(mo, .inr (9, mOb ad th (nI kn) (nI rn) (nI 64) (nI dp))), (ad 29, aI E 256 g9), (ad 30, aI E 32 a30), (ad 34, aI E 16 a34), (ad 35, aI E 8 a35), (ad 36, aI E 8 f22)] H := hP
                have hD : va_D A [(mo, .inr (9, mOb ad th (nI kn) (nI rn) (nI 64) (nI dp))), (ad 29, aI E 256 g9), (ad 30, aI E 32 a30), (ad 34, aI E 16 a34), (ad 35, aI E 8 a35), (ad 36, aI E 8 f22)] := hD
                refine lv_iinc (v := nI (i2 + 1)) (lv' := [(2, .int (nI (i2 + 1))), (0, .ref mo)]) hx hb dX8_digestAll_66 hl (k := 0) rfl ((nI_add i2 1).trans (congrArg nI (by omega))) (by decide) rfl (fun ls hl => ?_)
                refine lv_goto (tgt := 48) hx hb dX8_digestAll_69 (by decide) ?_
                exact ih  (i2 + 1) f22 (by omega) (lt_s (fun j hj => by rw [ef22, upd_ne (by omega)]; exact hg2 j hj) (by rw [ef22, upd_self]; exact hfs i2 (by omega))) (by omega) _ _ hP hD hS ls (lv_sub hl [0, 1] rfl)
          exact loop48 9 0 a36 (by omega) (fun _ h9 => absurd h9 (by omega)) (by omega) _ _ hP hD hS ls (lv_sub hl [0, 1] rfl)
        · skip
          refine lv_aload_n hx hb dX8_digestAll_34 rfl (lv_at hl 0 rfl) ?_
          refine lv_ldc2 hx hb hown hk229 dX8_digestAll_35 ?_
          refine lv_iload_n hx hb dX8_digestAll_38 rfl (lv_at hl 1 rfl) ?_
          refine lv_i2l (v := (nI mn).toInt64) hx hb dX8_digestAll_39 rfl ?_
          refine lv_lmul hx hb dX8_digestAll_40 ?_
          refine lv_bipush (v := 8) hx hb dX8_digestAll_41 (by decide) ?_
          have hP := hP.sub (ws' := [(mo, .inr (9, mOb ad th (nI kn) (nI rn) (nI 120) (nI dp))), (ad 29, aI E 256 g)] ++ [(ad 30, aI E 32 a30), (ad 34, aI E 16 a34), (ad 35, aI E 8 a35), (ad 36, aI E 8 a36)]) [0, 1, 2, 3, 4, 5] rfl
          have hD := hD.sub (ws' := [(mo, .inr (9, mOb ad th (nI kn) (nI rn) (nI 120) (nI dp))), (ad 29, aI E 256 g)] ++ [(ad 30, aI E 32 a30), (ad 34, aI E 16 a34), (ad 35, aI E 8 a35), (ad 36, aI E 8 a36)]) [0, 1, 2, 3, 4, 5] (by decide) rfl
          refine xcv (va_runV (As := [.long (8 * ((nI mn).toInt64)), .int 8]) (rest := []) ⟨hx, hb, hml, hown, hts⟩ (kX8_put8 l E mo ad th kn rn 120 dp g (8 * ((nI mn).toInt64)) (by first | assumption | omega) H.size) (cwV 2 hts gX8_digestAll_X8_put rfl rfl rfl (by decide +kernel) ⟨Nat.le_of_ble_eq_true rfl, Nat.le_of_ble_eq_true rfl⟩) ⟨CP.blind, (va_recv hev.1 hP.left (ci := 9) (q0 := 0) rfl rfl), (xpre hev hz hA hP hD hS hR0 hap [] rfl)⟩ rfl rfl hl.1 rfl (lv_room (Nat.le_of_ble_eq_true rfl)) dX8_digestAll_43 ⟨Nat.le_of_ble_eq_true rfl, Nat.le_of_ble_eq_true rfl⟩) hP hD hS hA (fun w24 H locs h25 hP hD hS => ?_)
          obtain ⟨g26, rfl, h25⟩ := h25
          try dsimp only at h25
          try rw [show (120 + 8 : Nat) = 128 by omega] at hP hD
          have hP : va_P E.1 vwCl [(mo, .inr (9, mOb ad th (nI kn) (nI rn) (nI 128) (nI dp))), (ad 29, aI E 256 g26), (ad 30, aI E 32 a30), (ad 34, aI E 16 a34), (ad 35, aI E 8 a35), (ad 36, aI E 8 a36)] H := hP
          have hD : va_D A [(mo, .inr (9, mOb ad th (nI kn) (nI rn) (nI 128) (nI dp))), (ad 29, aI E 256 g26), (ad 30, aI E 32 a30), (ad 34, aI E 16 a34), (ad 35, aI E 8 a35), (ad 36, aI E 8 a36)] := hD
          refine lv_iconst (v := 0) hx hb dX8_digestAll_46 (by decide) ?_
          refine lv_istore_n (lv' := [(2, .int 0), (0, .ref mo), (1, .int (nI mn))]) hx hb dX8_digestAll_47 rfl hl (by decide) rfl (fun ls hl => ?_)
          have loop48 : ∀ (fz : Nat) (i2 : Nat) (s36 : Nat → Int32), (i2 ≤ 8) → (∀ j, j < i2 → s36 j = sFS j) → (8 - i2 < fz) → ∀ (H : Heap) (locs : List Loc), va_P E.1 vwCl [(mo, .inr (9, mOb ad th (nI kn) (nI rn) (nI 128) (nI dp))), (ad 29, aI E 256 g26), (ad 30, aI E 32 a30), (ad 34, aI E 16 a34), (ad 35, aI E 8 a35), (ad 36, aI E 8 s36)] H → va_D A [(mo, .inr (9, mOb ad th (nI kn) (nI rn) (nI 128) (nI dp))), (ad 29, aI E 256 g26), (ad 30, aI E 32 a30), (ad 34, aI E 16 a34), (ad 35, aI E 8 a35), (ad 36, aI E 8 s36)] → va_S A s.heap H locs → ∀ ls : Array Slot, lv_has ls 3 [(2, .int (nI i2)), (0, .ref mo)] → W p l e ({ frames := 4, cells := 0, slots := 0, locals := 96 } : Room) s m ([.ref mo] : List Value).toArray below meth c H locs 0 0 (MQ below (QV E (pX8_digestAll E mo ad th kn rn mn dp a29 a30 a32 a33 a34 a35 a36) A) ([.ref mo] : List Value).toArray s 0 0 A) (F0 m 48 ls []) := by
            intro fz
            induction fz with
            | zero =>
              intro i2 s36 hi2 hg2 hfuel
              exact absurd hfuel (by omega)
            | succ fz ih =>
              intro i2 s36 hi2 hg2 hfuel H locs hP hD hS ls hl
              refine lv_iload_n hx hb dX8_digestAll_48 rfl (lv_at hl 0 rfl) ?_
              refine lv_bipush (v := 8) hx hb dX8_digestAll_49 (by decide) ?_
              refine lv_icmp_ge (tgt := 72) hx hb dX8_digestAll_51 (by decide) (fun c27 => ?_) (fun c27 => ?_)
              · skip
                have kc27 : 8 ≤ i2 := (nI_leI (a := 8) (b := i2) (by omega) (by omega)).mp c27
                have hpad := padU_of rfl (by omega) hg h25
                have hs8 : ∀ j, j < 8 → s36 j = sFS j := fun j hj => hg2 j (by omega)
                refine lv_iconst (v := 0) hx hb dX8_digestAll_72 (by decide) ?_
                refine lv_istore_n (lv' := [(2, .int 0), (0, .ref mo)]) hx hb dX8_digestAll_73 rfl hl (by decide) rfl (fun ls hl => ?_)
                refine lv_iload_n hx hb dX8_digestAll_74 rfl (lv_at hl 0 rfl) ?_
                refine lv_aload_n hx hb dX8_digestAll_75 rfl (lv_at hl 1 rfl) ?_
                refine xgt TX8_28 (v := .int (nI 128)) hx hb hts hiX8 hown hev.1 hP 0 rfl (by decide) hf206 rfl dX8_digestAll_76 ?_
                refine lv_icmp_ge (tgt := 93) hx hb dX8_digestAll_79 (by decide) (fun c28 => absurd c28 (by decide)) (fun c28 => ?_)
                refine lv_aload_n hx hb dX8_digestAll_82 rfl (lv_at hl 1 rfl) ?_
                refine lv_iload_n hx hb dX8_digestAll_83 rfl (lv_at hl 0 rfl) ?_
                have hP := hP.sub (ws' := [(ad 34, aI E 16 a34), (ad 35, aI E 8 a35), (ad 36, aI E 8 s36)] ++ [(mo, .inr (9, mOb ad th (nI kn) (nI rn) (nI 128) (nI dp))), (ad 29, aI E 256 g26), (ad 30, aI E 32 a30)]) [3, 4, 5, 0, 1, 2] rfl
                have hD := hD.sub (ws' := [(ad 34, aI E 16 a34), (ad 35, aI E 8 a35), (ad 36, aI E 8 s36)] ++ [(mo, .inr (9, mOb ad th (nI kn) (nI rn) (nI 128) (nI dp))), (ad 29, aI E 256 g26), (ad 30, aI E 32 a30)]) [3, 4, 5, 0, 1, 2] (by decide) rfl
                refine xcv (va_runV (As := [.int 0]) (rest := []) ⟨hx, hb, hml, hown, hts⟩ (kX8_block l E mo ad th kn rn 128 dp g26 a33 a34 a35 s36 0 (by first | assumption | omega) (by first | assumption | omega) H.size) (cwV 1 hts gX8_digestAll_X8_block rfl rfl rfl (by decide +kernel) ⟨Nat.le_of_ble_eq_true rfl, Nat.le_of_ble_eq_true rfl⟩) ⟨CP.blind, (va_recv hev.1 hP (ci := 9) (q0 := 3) rfl rfl), (xpre hev hz hA hP hD hS hR0 hap [0, 1, 4] rfl)⟩ rfl rfl hl.1 rfl (lv_room (Nat.le_of_ble_eq_true rfl)) dX8_digestAll_84 ⟨Nat.le_of_ble_eq_true rfl, Nat.le_of_ble_eq_true rfl⟩) hP hD hS hA (fun w30 H locs h31 hP hD hS => ?_)
                obtain ⟨g3432, g3533, g3634, rfl, h31⟩ := h31
                try dsimp only at h31
                have hP : va_P E.1 vwCl [(ad 34, aI E 16 g3432), (ad 35, aI E 8 g3533), (ad 36, aI E 8 g3634), (mo, .inr (9, mOb ad th (nI kn) (nI rn) (nI 128) (nI dp))), (ad 29, aI E 256 g26), (ad 30, aI E 32 a30)] H := hP
                have hD : va_D A [(ad 34, aI E 16 g3432), (ad 35, aI E 8 g3533), (ad 36, aI E 8 g3634), (mo, .inr (9, mOb ad th (nI kn) (nI rn) (nI 128) (nI dp))), (ad 29, aI E 256 g26), (ad 30, aI E 32 a30)] := hD
                refine lv_iinc (v := 64) (lv' := [(2, .int 64), (0, .ref mo)]) hx hb dX8_digestAll_87 hl (k := 0) rfl (by decide) (by decide) rfl (fun ls hl => ?_)
                refine lv_goto (tgt := 74) hx hb dX8_digestAll_90 (by decide) ?_
                refine lv_iload_n hx hb dX8_digestAll_74 rfl (lv_at hl 0 rfl) ?_
                refine lv_aload_n hx hb dX8_digestAll_75 rfl (lv_at hl 1 rfl) ?_
                refine xgt TX8_28 (v := .int (nI 128)) hx hb hts hiX8 hown hev.1 hP 3 rfl (by decide) hf206 rfl dX8_digestAll_76 ?_
                refine lv_icmp_ge (tgt := 93) hx hb dX8_digestAll_79 (by decide) (fun c35 => absurd c35 (by decide)) (fun c35 => ?_)
                refine lv_aload_n hx hb dX8_digestAll_82 rfl (lv_at hl 1 rfl) ?_
                refine lv_iload_n hx hb dX8_digestAll_83 rfl (lv_at hl 0 rfl) ?_
                have hP := hP.sub (ws' := [(ad 34, aI E 16 g3432), (ad 35, aI E 8 g3533), (ad 36, aI E 8 g3634)] ++ [(mo, .inr (9, mOb ad th (nI kn) (nI rn) (nI 128) (nI dp))), (ad 29, aI E 256 g26), (ad 30, aI E 32 a30)]) [0, 1, 2, 3, 4, 5] rfl
                have hD := hD.sub (ws' := [(ad 34, aI E 16 g3432), (ad 35, aI E 8 g3533), (ad 36, aI E 8 g3634)] ++ [(mo, .inr (9, mOb ad th (nI kn) (nI rn) (nI 128) (nI dp))), (ad 29, aI E 256 g26), (ad 30, aI E 32 a30)]) [0, 1, 2, 3, 4, 5] (by decide) rfl
                refine xcv (va_runV (As := [.int 64]) (rest := []) ⟨hx, hb, hml, hown, hts⟩ (kX8_block l E mo ad th kn rn 128 dp g26 a33 g3432 g3533 g3634 64 (by first | assumption | omega) (by first | assumption | omega) H.size) (cwV 1 hts gX8_digestAll_X8_block rfl rfl rfl (by decide +kernel) ⟨Nat.le_of_ble_eq_true rfl, Nat.le_of_ble_eq_true rfl⟩) ⟨CP.blind, (va_recv hev.1 hP (ci := 9) (q0 := 3) rfl rfl), (xpre hev hz hA hP hD hS hR0 hap [0, 1, 4] rfl)⟩ rfl rfl hl.1 rfl (lv_room (Nat.le_of_ble_eq_true rfl)) dX8_digestAll_84 ⟨Nat.le_of_ble_eq_true rfl, Nat.le_of_ble_eq_true rfl⟩) hP hD hS hA (fun w37 H locs h38 hP hD hS => ?_)
                obtain ⟨g3439, g3540, g3641, rfl, h38⟩ := h38
                try dsimp only at h38
                have hP : va_P E.1 vwCl [(ad 34, aI E 16 g3439), (ad 35, aI E 8 g3540), (ad 36, aI E 8 g3641), (mo, .inr (9, mOb ad th (nI kn) (nI rn) (nI 128) (nI dp))), (ad 29, aI E 256 g26), (ad 30, aI E 32 a30)] H := hP
                have hD : va_D A [(ad 34, aI E 16 g3439), (ad 35, aI E 8 g3540), (ad 36, aI E 8 g3641), (mo, .inr (9, mOb ad th (nI kn) (nI rn) (nI 128) (nI dp))), (ad 29, aI E 256 g26), (ad 30, aI E 32 a30)] := hD
                refine lv_iinc (v := 128) (lv' := [(2, .int 128), (0, .ref mo)]) hx hb dX8_digestAll_87 hl (k := 0) rfl (by decide) (by decide) rfl (fun ls hl => ?_)
                refine lv_goto (tgt := 74) hx hb dX8_digestAll_90 (by decide) ?_
                refine lv_iload_n hx hb dX8_digestAll_74 rfl (lv_at hl 0 rfl) ?_
                refine lv_aload_n hx hb dX8_digestAll_75 rfl (lv_at hl 1 rfl) ?_
                refine xgt TX8_28 (v := .int (nI 128)) hx hb hts hiX8 hown hev.1 hP 3 rfl (by decide) hf206 rfl dX8_digestAll_76 ?_
                refine lv_icmp_ge (tgt := 93) hx hb dX8_digestAll_79 (by decide) (fun c42 => ?_) (fun c42 => absurd (by decide) c42)
                have hend : ∀ i, i < 8 → g3641 i = shaU a29 mn i := fun i hi => by rw [shaU, if_neg hsz, h38 i hi]; exact blk_congr (fun j hj => by rw [h31 j hj]; exact blk_congr hs8 (mwd_congr hpad (by decide)) j hj) (mwd_congr hpad (by decide)) i hi
                refine lv_iconst (v := 0) hx hb dX8_digestAll_93 (by decide) ?_
                refine lv_istore_n (lv' := [(2, .int 0), (0, .ref mo)]) hx hb dX8_digestAll_94 rfl hl (by decide) rfl (fun ls hl => ?_)
                have loop95 : ∀ (fz : Nat) (i3 : Nat) (m30 : Nat → Int32), (i3 ≤ 32) → (∀ k, k < i3 → m30 k = (jus (g3641 (k / 4)) (nI (24 - 8 * (k % 4))) &&& 255)) → (32 - i3 < fz) → ∀ (H : Heap) (locs : List Loc), va_P E.1 vwCl [(ad 34, aI E 16 g3439), (ad 35, aI E 8 g3540), (ad 36, aI E 8 g3641), (mo, .inr (9, mOb ad th (nI kn) (nI rn) (nI 128) (nI dp))), (ad 29, aI E 256 g26), (ad 30, aI E 32 m30)] H → va_D A [(ad 34, aI E 16 g3439), (ad 35, aI E 8 g3540), (ad 36, aI E 8 g3641), (mo, .inr (9, mOb ad th (nI kn) (nI rn) (nI 128) (nI dp))), (ad 29, aI E 256 g26), (ad 30, aI E 32 m30)] → va_S A s.heap H locs → ∀ ls : Array Slot, lv_has ls 3 [(2, .int (nI i3)), (0, .ref mo)] → W p l e ({ frames := 4, cells := 0, slots := 0, locals := 96 } : Room) s m ([.ref mo] : List Value).toArray below meth c H locs 0 0 (MQ below (QV E (pX8_digestAll E mo ad th kn rn mn dp a29 a30 a32 a33 a34 a35 a36) A) ([.ref mo] : List Value).toArray s 0 0 A) (F0 m 95 ls []) := by
                  intro fz
                  induction fz with
                  | zero =>
                    intro i3 m30 hi3 hg3 hfuel
                    exact absurd hfuel (by omega)
                  | succ fz ih =>
                    intro i3 m30 hi3 hg3 hfuel H locs hP hD hS ls hl
                    refine lv_iload_n hx hb dX8_digestAll_95 rfl (lv_at hl 0 rfl) ?_
                    refine lv_bipush (v := 32) hx hb dX8_digestAll_96 (by decide) ?_
                    refine lv_icmp_ge (tgt := 135) hx hb dX8_digestAll_98 (by decide) (fun c43 => ?_) (fun c43 => ?_)
                    · skip
                      have kc43 : 32 ≤ i3 := (nI_leI (a := 32) (b := i3) (by omega) (by omega)).mp c43
                      refine xrv hx hb hr hlocks (hP.sub (ws' := [(mo, .inr (9, mOb ad th (nI kn) (nI rn) (nI 128) (nI dp))), (ad 29, aI E 256 g26), (ad 30, aI E 32 m30), (ad 34, aI E 16 g3439), (ad 35, aI E 8 g3540), (ad 36, aI E 8 g3641)]) [3, 4, 5, 0, 1, 2] rfl) (hD.sub (ws' := [(mo, .inr (9, mOb ad th (nI kn) (nI rn) (nI 128) (nI dp))), (ad 29, aI E 256 g26), (ad 30, aI E 32 m30), (ad 34, aI E 16 g3439), (ad 35, aI E 8 g3540), (ad 36, aI E 8 g3641)]) [3, 4, 5, 0, 1, 2] (by decide) rfl) hS ⟨128, g26, m30, g3439, g3540, g3641, rfl, ?_⟩ dX8_digestAll_135
                      exact ⟨hend, fun k hk => hg3 k (by omega)⟩
                    · skip
                      have kc43 : ¬ 32 ≤ i3 := fun h9 => c43 ((nI_leI (a := 32) (b := i3) (by omega) (by omega)).mpr h9)
                      refine lv_aload_n hx hb dX8_digestAll_101 rfl (lv_at hl 1 rfl) ?_
                      refine xgt TX8_30 (v := .ref (ad 30)) hx hb hts hiX8 hown hev.1 hP 3 rfl (by decide) hf90 rfl dX8_digestAll_102 ?_
                      refine lv_iload_n hx hb dX8_digestAll_105 rfl (lv_at hl 0 rfl) ?_
                      refine lv_aload_n hx hb dX8_digestAll_106 rfl (lv_at hl 1 rfl) ?_
                      refine xgt TX8_36 (v := .ref (ad 36)) hx hb hts hiX8 hown hev.1 hP 3 rfl (by decide) hf180 rfl dX8_digestAll_107 ?_
                      refine lv_iload_n hx hb dX8_digestAll_110 rfl (lv_at hl 0 rfl) ?_
                      refine lv_iconst (v := 4) hx hb dX8_digestAll_111 (by decide) ?_
                      refine lv_idiv hx hb dX8_digestAll_112 (by decide) ?_
                      refine xtop (y := nI (i3 / 4)) (pk_div (a := i3) (d := 4) (by omega) (by decide) (by decide)) ?_
                      refine xiald (k := (i3 / 4)) hx hb hev.1 hP 2 1 rfl rfl (by omega) (by decide) dX8_digestAll_113 ?_
                      refine lv_bipush (v := 24) hx hb dX8_digestAll_114 (by decide) ?_
                      refine lv_bipush (v := 8) hx hb dX8_digestAll_116 (by decide) ?_
                      refine lv_iload_n hx hb dX8_digestAll_118 rfl (lv_at hl 0 rfl) ?_
                      refine lv_iconst (v := 4) hx hb dX8_digestAll_119 (by decide) ?_
                      refine lv_irem hx hb dX8_digestAll_120 (by decide) ?_
                      refine xtop (y := nI (i3 % 4)) (pk_rem (a := i3) (d := 4) (by omega) (by decide) (by decide)) ?_
                      refine lv_imul hx hb dX8_digestAll_121 ?_
                      refine xtop (y := nI (8 * (i3 % 4))) (pk_mul _ _) ?_
                      refine lv_isub hx hb dX8_digestAll_122 ?_
                      refine xtop (y := nI (24 - (8 * (i3 % 4)))) (pk_sub (a := 24) (b := (8 * (i3 % 4))) (by omega)) ?_
                      refine lv_iushr (v := ((g3641 (i3 / 4)).toUInt32 >>> ((nI (24 - (8 * (i3 % 4)))).toUInt32 &&& Int32.toUInt32 31)).toInt32) hx hb dX8_digestAll_123 rfl ?_
                      refine lv_topi (fun v44 ev44 => ?_)
                      refine lv_sipush (v := 255) hx hb dX8_digestAll_124 (by decide) ?_
                      refine lv_iand hx hb dX8_digestAll_127 ?_
                      refine xiast (k := i3) hx hb hev.1 hP hD hS 5 1 rfl rfl (by omega) (by decide) dX8_digestAll_128 (fun H locs hP hD hS => ?_)
                      obtain ⟨f45, ef45⟩ : ∃ y9_ : Nat → Int32, y9_ = upd m30 i3 (v44 &&& 255) := ⟨_, rfl⟩
                      rw [← ef45] at hP hD
                      have hP : va_P E.1 vwCl [(ad 34, aI E 16 g3439), (ad 35, aI E 8 g3540), (ad 36, aI E 8 g3641), (mo, .inr (9, mOb ad th (nI kn) (nI rn) (nI 128) (nI dp))), (ad 29, aI E 256 g26), (ad 30, aI E 32 f45)] H := hP
                      have hD : va_D A [(ad 34, aI E 16 g3439), (ad 35, aI E 8 g3540), (ad 36, aI E 8 g3641), (mo, .inr (9, mOb ad th (nI kn) (nI rn) (nI 128) (nI dp))), (ad 29, aI E 256 g26), (ad 30, aI E 32 f45)] := hD
                      refine lv_iinc (v := nI (i3 + 1)) (lv' := [(2, .int (nI (i3 + 1))), (0, .ref mo)]) hx hb dX8_digestAll_129 hl (k := 0) rfl ((nI_add i3 1).trans (congrArg nI (by omega))) (by decide) rfl (fun ls hl => ?_)
                      refine lv_goto (tgt := 95) hx hb dX8_digestAll_132 (by decide) ?_
                      exact ih  (i3 + 1) f45 (by omega) (lt_s (fun j hj => by rw [ef45, upd_ne (by omega)]; exact hg3 j hj) (by rw [ef45, upd_self]; subst_vars; rfl)) (by omega) _ _ hP hD hS ls (lv_sub hl [0, 1] rfl)
                exact loop95 33 0 a30 (by omega) (fun _ h9 => absurd h9 (by omega)) (by omega) _ _ hP hD hS ls (lv_sub hl [0, 1] rfl)
              · skip
                have kc27 : ¬ 8 ≤ i2 := fun h9 => c27 ((nI_leI (a := 8) (b := i2) (by omega) (by omega)).mpr h9)
                refine lv_aload_n hx hb dX8_digestAll_54 rfl (lv_at hl 1 rfl) ?_
                refine xgt TX8_36 (v := .ref (ad 36)) hx hb hts hiX8 hown hev.1 hP 0 rfl (by decide) hf180 rfl dX8_digestAll_55 ?_
                refine lv_iload_n hx hb dX8_digestAll_58 rfl (lv_at hl 0 rfl) ?_
                refine lv_aload_n hx hb dX8_digestAll_59 rfl (lv_at hl 1 rfl) ?_
                refine xgt TX8_32 (v := .ref (ad 32)) hx hb hts hiX8 hown hev.1 hP 0 rfl (by decide) hf104 rfl dX8_digestAll_60 ?_
                refine lv_iload_n hx hb dX8_digestAll_63 rfl (lv_at hl 0 rfl) ?_
                refine xiald (k := (i2)) hx hb hev.1 (xro hR0 hap hS) 0 1 rfl rfl (by omega) (by decide) dX8_digestAll_64 ?_
                refine xiast (k := i2) hx hb hev.1 hP hD hS 5 1 rfl rfl (by omega) (by decide) dX8_digestAll_65 (fun H locs hP hD hS => ?_)
                obtain ⟨f46, ef46⟩ : ∃ y9_ : Nat → Int32, y9_ = upd s36 i2 (a32 i2) := ⟨_, rfl⟩
                rw [← ef46] at hP hD
                have hP : va_P E.1 vwCl [(mo, .inr (9, mOb ad th (nI kn) (nI rn) (nI 128) (nI dp))), (ad 29, aI E 256 g26), (ad 30, aI E 32 a30), (ad 34, aI E 16 a34), (ad 35, aI E 8 a35), (ad 36, aI E 8 f46)] H := hP
                have hD : va_D A [(mo, .inr (9, mOb ad th (nI kn) (nI rn) (nI 128) (nI dp))), (ad 29, aI E 256 g26), (ad 30, aI E 32 a30), (ad 34, aI E 16 a34), (ad 35, aI E 8 a35), (ad 36, aI E 8 f46)] := hD
                refine lv_iinc (v := nI (i2 + 1)) (lv' := [(2, .int (nI (i2 + 1))), (0, .ref mo)]) hx hb dX8_digestAll_66 hl (k := 0) rfl ((nI_add i2 1).trans (congrArg nI (by omega))) (by decide) rfl (fun ls hl => ?_)
                refine lv_goto (tgt := 48) hx hb dX8_digestAll_69 (by decide) ?_
                exact ih  (i2 + 1) f46 (by omega) (lt_s (fun j hj => by rw [ef46, upd_ne (by omega)]; exact hg2 j hj) (by rw [ef46, upd_self]; exact hfs i2 (by omega))) (by omega) _ _ hP hD hS ls (lv_sub hl [0, 1] rfl)
          exact loop48 9 0 a36 (by omega) (fun _ h9 => absurd h9 (by omega)) (by omega) _ _ hP hD hS ls (lv_sub hl [0, 1] rfl)
      · skip
        have kc5 : ¬ (M % 64) = 56 := fun h9 => c5 ((nI_eq (a := (M % 64)) (b := 56) (by omega) (by omega)).mpr h9)
        refine lv_aload_n hx hb dX8_digestAll_25 rfl (lv_at hl 0 rfl) ?_
        refine lv_lconst (v := 0) hx hb dX8_digestAll_26 (by decide) ?_
        refine lv_iconst (v := 1) hx hb dX8_digestAll_27 (by decide) ?_
        have hP := hP.sub (ws' := [(mo, .inr (9, mOb ad th (nI kn) (nI rn) (nI M) (nI dp))), (ad 29, aI E 256 g)] ++ [(ad 30, aI E 32 a30), (ad 34, aI E 16 a34), (ad 35, aI E 8 a35), (ad 36, aI E 8 a36)]) [0, 1, 2, 3, 4, 5] rfl
        have hD := hD.sub (ws' := [(mo, .inr (9, mOb ad th (nI kn) (nI rn) (nI M) (nI dp))), (ad 29, aI E 256 g)] ++ [(ad 30, aI E 32 a30), (ad 34, aI E 16 a34), (ad 35, aI E 8 a35), (ad 36, aI E 8 a36)]) [0, 1, 2, 3, 4, 5] (by decide) rfl
        refine xcv (va_runV (As := [.long 0, .int 1]) (rest := []) ⟨hx, hb, hml, hown, hts⟩ (kX8_put1 l E mo ad th kn rn M dp g 0 (by first | assumption | omega) H.size) (cwV 2 hts gX8_digestAll_X8_put rfl rfl rfl (by decide +kernel) ⟨Nat.le_of_ble_eq_true rfl, Nat.le_of_ble_eq_true rfl⟩) ⟨CP.blind, (va_recv hev.1 hP.left (ci := 9) (q0 := 0) rfl rfl), (xpre hev hz hA hP hD hS hR0 hap [] rfl)⟩ rfl rfl hl.1 rfl (lv_room (Nat.le_of_ble_eq_true rfl)) dX8_digestAll_28 ⟨Nat.le_of_ble_eq_true rfl, Nat.le_of_ble_eq_true rfl⟩) hP hD hS hA (fun w48 H locs h49 hP hD hS => ?_)
        obtain ⟨g50, rfl, h49⟩ := h49
        try dsimp only at h49
        have hP : va_P E.1 vwCl [(mo, .inr (9, mOb ad th (nI kn) (nI rn) (nI (M + 1)) (nI dp))), (ad 29, aI E 256 g50), (ad 30, aI E 32 a30), (ad 34, aI E 16 a34), (ad 35, aI E 8 a35), (ad 36, aI E 8 a36)] H := hP
        have hD : va_D A [(mo, .inr (9, mOb ad th (nI kn) (nI rn) (nI (M + 1)) (nI dp))), (ad 29, aI E 256 g50), (ad 30, aI E 32 a30), (ad 34, aI E 16 a34), (ad 35, aI E 8 a35), (ad 36, aI E 8 a36)] := hD
        refine lv_goto (tgt := 13) hx hb dX8_digestAll_31 (by decide) ?_
        exact ih  (M + 1) g50 (⟨by omega, by have q := hM.2.1; split at q <;> split <;> omega, by omega⟩) (lt_s (fun j hj => by rw [h49]; exact (ap_lo _ _ _ hj).trans (hg j hj)) (by rw [h49, if_neg (by omega), if_neg (by omega)]; show upd g M (ub 0 0) M = 0; rw [upd_self, ub_0])) (by omega) _ _ hP hD hS ls (lv_sub hl [0, 1] rfl)
  exact loop13 121 (mn + 1) g4 (⟨by omega, by split <;> omega, by omega⟩) (lt_s (fun j hj => by rw [h3, if_pos hj]; exact ap_lo _ _ _ hj) (by rw [h3, if_neg (by omega), if_pos rfl]; show upd a29 mn (ub 128 0) mn = 128; rw [upd_self, ub_128])) (by omega) _ _ hP hD hS ls (lv_sub hl [1, 0] rfl)
