theorem cpt_z {v h : Int32} {k n : Nat} (hk : 0 < k) (h0 : jus v (nI (n * 4)) = 0) : cpt v h k n = n := by
  obtain ⟨k, rfl⟩ : ∃ i, k = i + 1 := ⟨k - 1, by omega⟩
  rw [cpt, if_pos h0]
theorem cpt_b {v h : Int32} {k n : Nat} (hk : 0 < k) (h0 : ¬ jus v (nI (n * 4)) = 0) (hb : (jus v (nI (n * 4)) &&& 15) = 0 ∨ h < (jus v (nI (n * 4)) &&& 15)) : cpt v h k n = 0 := by
  obtain ⟨k, rfl⟩ : ∃ i, k = i + 1 := ⟨k - 1, by omega⟩
  rw [cpt, if_neg h0, if_pos hb]
theorem cpt_s {v h : Int32} {k n : Nat} (hk : 0 < k) (h0 : ¬ jus v (nI (n * 4)) = 0) (hb : ¬ ((jus v (nI (n * 4)) &&& 15) = 0 ∨ h < (jus v (nI (n * 4)) &&& 15))) : cpt v h k n = cpt v h (k - 1) (n + 1) := by
  obtain ⟨k, rfl⟩ : ∃ i, k = i + 1 := ⟨k - 1, by omega⟩
  rw [cpt, if_neg h0, if_neg hb]
  rfl

abbrev pX7_countParts (E : xE) (v : Int32) (h : Int32) (r : Int32) (w : va_W) : Prop := w = [] ∧ r = nI (cnt v h) ∧ (True)
set_option maxHeartbeats 4000000 in
set_option maxRecDepth 100000 in
theorem kX7_countParts (l : Launch) (E : xE) (v : Int32) (h : Int32)  : KT l yX7_countParts wsX7_countParts 0 0 0 0 E [] [] [.int v, .int h] (QI E (pX7_countParts E v h)) := by
  refine KT.start (cc := cX7_countParts) (maxL := 5) (ret := (some .int)) (by decide) rfl (Nat.le_of_ble_eq_true rfl) ?_
  intro p e s m below meth c A H hx hb hr hlocks hml hts hown hin hP hR0 hD hap hev hz hA hS ls hl
  have hl : lv_has ls 5 [(0, .int v), (1, .int h)] := hl
  refine lv_iload_n hx hb dX7_countParts_0 rfl (lv_at hl 0 rfl) ?_
  refine lv_if_le (tgt := 11) hx hb dX7_countParts_1 (by decide) (fun c1 => ?_) (fun c1 => ?_)
  · skip
    refine lv_iconst (v := 0) hx hb dX7_countParts_11 (by decide) ?_
    refine xri hx hb hr hlocks hP hD hS ⟨rfl, ?_, ?_⟩ dX7_countParts_12
    · rw [cnt, if_pos (Or.inl c1)]
      rfl
    · trivial
  · skip
    refine lv_iload_n hx hb dX7_countParts_4 rfl (lv_at hl 0 rfl) ?_
    refine lv_bipush (v := 24) hx hb dX7_countParts_5 (by decide) ?_
    refine lv_iushr (v := (v.toUInt32 >>> ((24 : Int32).toUInt32 &&& Int32.toUInt32 31)).toInt32) hx hb dX7_countParts_7 rfl ?_
    refine lv_if_eq (tgt := 13) hx hb dX7_countParts_8 (by decide) (fun c2 => ?_) (fun c2 => ?_)
    · skip
      refine lv_iconst (v := 0) hx hb dX7_countParts_13 (by decide) ?_
      refine lv_istore_n (lv' := [(2, .int 0), (0, .int v), (1, .int h)]) hx hb dX7_countParts_14 rfl hl (by decide) rfl (fun ls hl => ?_)
      have loop15 : ∀ (fz : Nat) (i : Nat), (i ≤ 6) → (cpt v h (6 - i) i = cpt v h 6 0) → (6 - i < fz) → ∀ (H : Heap) (locs : List Loc), va_P E.1 vwCl [] H → va_D A [] → va_S A s.heap H locs → ∀ ls : Array Slot, lv_has ls 5 [(2, .int (nI i)), (0, .int v), (1, .int h)] → W p l e ({ frames := 0, cells := 0, slots := 0, locals := 0 } : Room) s m ([.int v, .int h] : List Value).toArray below meth c H locs 0 0 (MQ below (QI E (pX7_countParts E v h) A) ([.int v, .int h] : List Value).toArray s 0 0 A) (F0 m 15 ls []) := by
        intro fz
        induction fz with
        | zero =>
          intro i hi he hfuel
          exact absurd hfuel (by omega)
        | succ fz ih =>
          intro i hi he hfuel H locs hP hD hS ls hl
          refine lv_iload_n hx hb dX7_countParts_15 rfl (lv_at hl 0 rfl) ?_
          refine lv_bipush (v := 6) hx hb dX7_countParts_16 (by decide) ?_
          refine lv_icmp_ge (tgt := 58) hx hb dX7_countParts_18 (by decide) (fun c3 => ?_) (fun c3 => ?_)
          · skip
            have kc3 : 6 ≤ i := (nI_leI (a := 6) (b := i) (by omega) (by omega)).mp c3
            refine lv_bipush (v := 6) hx hb dX7_countParts_58 (by decide) ?_
            refine xri hx hb hr hlocks hP hD hS ⟨rfl, ?_, ?_⟩ dX7_countParts_60
            · rw [cnt, if_neg (fun q => q.elim c1 (fun q => q (show jus v 24 = 0 from c2))), ← he]
              obtain rfl : i = 6 := by omega
              rfl
            · trivial
          · skip
            have kc3 : ¬ 6 ≤ i := fun h9 => c3 ((nI_leI (a := 6) (b := i) (by omega) (by omega)).mpr h9)
            refine lv_iload_n hx hb dX7_countParts_21 rfl (lv_at hl 1 rfl) ?_
            refine lv_iload_n hx hb dX7_countParts_22 rfl (lv_at hl 0 rfl) ?_
            refine lv_iconst (v := 4) hx hb dX7_countParts_23 (by decide) ?_
            refine lv_imul hx hb dX7_countParts_24 ?_
            refine xtop (y := nI (i * 4)) (pk_mul _ _) ?_
            refine lv_iushr (v := (v.toUInt32 >>> ((nI (i * 4)).toUInt32 &&& Int32.toUInt32 31)).toInt32) hx hb dX7_countParts_25 rfl ?_
            refine lv_topi (fun v4 ev4 => ?_)
            refine lv_istore_n (lv' := [(3, .int v4), (2, .int (nI i)), (0, .int v), (1, .int h)]) hx hb dX7_countParts_26 rfl hl (by decide) rfl (fun ls hl => ?_)
            refine lv_iload_n hx hb dX7_countParts_27 rfl (lv_at hl 0 rfl) ?_
            refine lv_if_ne (tgt := 33) hx hb dX7_countParts_28 (by decide) (fun c5 => ?_) (fun c5 => ?_)
            · skip
              refine lv_iload_n hx hb dX7_countParts_33 rfl (lv_at hl 0 rfl) ?_
              refine lv_bipush (v := 15) hx hb dX7_countParts_34 (by decide) ?_
              refine lv_iand hx hb dX7_countParts_36 ?_
              refine lv_istore (lv' := [(4, .int (v4 &&& 15)), (3, .int v4), (2, .int (nI i)), (0, .int v), (1, .int h)]) hx hb dX7_countParts_37 hl (by decide) rfl (fun ls hl => ?_)
              refine lv_iload hx hb dX7_countParts_39 (lv_at hl 0 rfl) ?_
              refine lv_if_eq (tgt := 50) hx hb dX7_countParts_41 (by decide) (fun c6 => ?_) (fun c6 => ?_)
              · skip
                refine lv_iconst (v := 0) hx hb dX7_countParts_50 (by decide) ?_
                refine xri hx hb hr hlocks hP hD hS ⟨rfl, ?_, ?_⟩ dX7_countParts_51
                · rw [cnt, if_neg (fun q => q.elim c1 (fun q => q (show jus v 24 = 0 from c2))), ← he]
                  rw [cpt_b (by omega) (by rw [show jus v (nI (i * 4)) = v4 from ev4.symm]; exact c5) (by rw [show (jus v (nI (i * 4)) &&& 15) = v4 &&& 15 from (by rw [ev4]; rfl)]; exact Or.inl c6)]
                  rfl
                · trivial
              · skip
                refine lv_iload hx hb dX7_countParts_44 (lv_at hl 0 rfl) ?_
                refine lv_iload_n hx hb dX7_countParts_46 rfl (lv_at hl 4 rfl) ?_
                refine lv_icmp_le (tgt := 52) hx hb dX7_countParts_47 (by decide) (fun c7 => ?_) (fun c7 => ?_)
                · skip
                  refine lv_iinc (v := nI (i + 1)) (lv' := [(2, .int (nI (i + 1))), (4, .int (v4 &&& 15)), (3, .int v4), (0, .int v), (1, .int h)]) hx hb dX7_countParts_52 hl (k := 2) rfl ((nI_add i 1).trans (congrArg nI (by omega))) (by decide) rfl (fun ls hl => ?_)
                  refine lv_goto (tgt := 15) hx hb dX7_countParts_55 (by decide) ?_
                  exact ih  (i + 1) (by omega) (by rw [show 6 - (i + 1) = 6 - i - 1 by omega, ← he, cpt_s (k := 6 - i) (n := i) (by omega) (by rw [show jus v (nI (i * 4)) = v4 from ev4.symm]; exact c5) (by rw [show (jus v (nI (i * 4)) &&& 15) = v4 &&& 15 from (by rw [ev4]; rfl)]; exact fun q => q.elim c6 (fun q => absurd c7 (Int32.not_le.mpr q)))]) (by omega) _ _ hP hD hS ls (lv_sub hl [0, 3, 4] rfl)
                · skip
                  refine lv_iconst (v := 0) hx hb dX7_countParts_50 (by decide) ?_
                  refine xri hx hb hr hlocks hP hD hS ⟨rfl, ?_, ?_⟩ dX7_countParts_51
                  · rw [cnt, if_neg (fun q => q.elim c1 (fun q => q (show jus v 24 = 0 from c2))), ← he]
                    rw [cpt_b (by omega) (by rw [show jus v (nI (i * 4)) = v4 from ev4.symm]; exact c5) (by rw [show (jus v (nI (i * 4)) &&& 15) = v4 &&& 15 from (by rw [ev4]; rfl)]; exact Or.inr (Int32.not_le.mp c7))]
                    rfl
                  · trivial
            · skip
              refine lv_iload_n hx hb dX7_countParts_31 rfl (lv_at hl 1 rfl) ?_
              refine xri hx hb hr hlocks hP hD hS ⟨rfl, ?_, ?_⟩ dX7_countParts_32
              · rw [cnt, if_neg (fun q => q.elim c1 (fun q => q (show jus v 24 = 0 from c2))), ← he]
                rw [cpt_z (by omega) (by rw [show jus v (nI (i * 4)) = v4 from ev4.symm]; exact c5)]
              · trivial
      exact loop15 7 0 (by omega) (rfl) (by omega) _ _ hP hD hS ls (lv_sub hl [0, 1, 2] rfl)
    · skip
      refine lv_iconst (v := 0) hx hb dX7_countParts_11 (by decide) ?_
      refine xri hx hb hr hlocks hP hD hS ⟨rfl, ?_, ?_⟩ dX7_countParts_12
      · rw [cnt, if_pos (Or.inr (show ¬ jus v 24 = 0 from c2))]
        rfl
      · trivial

abbrev pX7_partsOfPath (E : xE) (v : Int32) (r : Int32) (w : va_W) : Prop := w = [] ∧ r = nI (cnt v 14) ∧ (True)
set_option maxHeartbeats 4000000 in
set_option maxRecDepth 100000 in
theorem kX7_partsOfPath (l : Launch) (E : xE) (v : Int32)  : KT l yX7_partsOfPath wsX7_partsOfPath 1 24 0 0 E [] [] [.int v] (QI E (pX7_partsOfPath E v)) := by
  refine KT.start (cc := cX7_partsOfPath) (maxL := 1) (ret := (some .int)) (by decide) rfl (Nat.le_of_ble_eq_true rfl) ?_
  intro p e s m below meth c A H hx hb hr hlocks hml hts hown hin hP hR0 hD hap hev hz hA hS ls hl
  have hl : lv_has ls 1 [(0, .int v)] := hl
  refine lv_iload_n hx hb dX7_partsOfPath_0 rfl (lv_at hl 0 rfl) ?_
  refine lv_bipush (v := 14) hx hb dX7_partsOfPath_1 (by decide) ?_
  have hP := hP.sub (ws' := [] ++ []) [] rfl
  have hD := hD.sub (ws' := [] ++ []) [] (by decide) rfl
  refine xci (va_runS (As := [.int v, .int 14]) (rest := []) ⟨hx, hb, hml, hown, hts⟩ (kX7_countParts l E v 14  H.size) (va_cwS 2 hts gX7_partsOfPath_X7_countParts rfl rfl rfl (by decide +kernel) ⟨Nat.le_of_ble_eq_true rfl, Nat.le_of_ble_eq_true rfl⟩) ⟨CP.blind, (xpre hev hz hA hP hD hS hR0 hap [] rfl)⟩ rfl rfl hl.1 rfl (lv_room (Nat.le_of_ble_eq_true rfl)) dX7_partsOfPath_3 ⟨Nat.le_of_ble_eq_true rfl, Nat.le_of_ble_eq_true rfl⟩) hP hD hS hA (fun r1 w2 H locs h3 hP hD hS => ?_)
  obtain ⟨rfl, rfl, h3⟩ := h3
  try dsimp only at h3
  have hP : va_P E.1 vwCl [] H := hP
  have hD : va_D A [] := hD
  refine xri hx hb hr hlocks hP hD hS ⟨rfl, ?_, ?_⟩ dX7_partsOfPath_6
  · rfl
  · trivial

abbrev pX7_partsOfPattern (E : xE) (v : Int32) (r : Int32) (w : va_W) : Prop := w = [] ∧ r = nI (cnt v 15) ∧ (True)
set_option maxHeartbeats 4000000 in
set_option maxRecDepth 100000 in
theorem kX7_partsOfPattern (l : Launch) (E : xE) (v : Int32)  : KT l yX7_partsOfPattern wsX7_partsOfPattern 1 24 0 0 E [] [] [.int v] (QI E (pX7_partsOfPattern E v)) := by
  refine KT.start (cc := cX7_partsOfPattern) (maxL := 1) (ret := (some .int)) (by decide) rfl (Nat.le_of_ble_eq_true rfl) ?_
  intro p e s m below meth c A H hx hb hr hlocks hml hts hown hin hP hR0 hD hap hev hz hA hS ls hl
  have hl : lv_has ls 1 [(0, .int v)] := hl
  refine lv_iload_n hx hb dX7_partsOfPattern_0 rfl (lv_at hl 0 rfl) ?_
  refine lv_bipush (v := 15) hx hb dX7_partsOfPattern_1 (by decide) ?_
  have hP := hP.sub (ws' := [] ++ []) [] rfl
  have hD := hD.sub (ws' := [] ++ []) [] (by decide) rfl
  refine xci (va_runS (As := [.int v, .int 15]) (rest := []) ⟨hx, hb, hml, hown, hts⟩ (kX7_countParts l E v 15  H.size) (va_cwS 2 hts gX7_partsOfPattern_X7_countParts rfl rfl rfl (by decide +kernel) ⟨Nat.le_of_ble_eq_true rfl, Nat.le_of_ble_eq_true rfl⟩) ⟨CP.blind, (xpre hev hz hA hP hD hS hR0 hap [] rfl)⟩ rfl rfl hl.1 rfl (lv_room (Nat.le_of_ble_eq_true rfl)) dX7_partsOfPattern_3 ⟨Nat.le_of_ble_eq_true rfl, Nat.le_of_ble_eq_true rfl⟩) hP hD hS hA (fun r1 w2 H locs h3 hP hD hS => ?_)
  obtain ⟨rfl, rfl, h3⟩ := h3
  try dsimp only at h3
  have hP : va_P E.1 vwCl [] H := hP
  have hD : va_D A [] := hD
  refine xri hx hb hr hlocks hP hD hS ⟨rfl, ?_, ?_⟩ dX7_partsOfPattern_6
  · rfl
  · trivial

abbrev pX7_fits (E : xE) (u : Int32) (v : Int32) (r : Int32) (w : va_W) : Prop := w = [] ∧ r = b1 (fitP u v) ∧ (True)
set_option maxHeartbeats 4000000 in
set_option maxRecDepth 100000 in
theorem kX7_fits (l : Launch) (E : xE) (u : Int32) (v : Int32)  : KT l yX7_fits wsX7_fits 2 44 0 0 E [] [] [.int u, .int v] (QI E (pX7_fits E u v)) := by
  refine KT.start (cc := cX7_fits) (maxL := 8) (ret := (some .boolean)) (by decide) rfl (Nat.le_of_ble_eq_true rfl) ?_
  intro p e s m below meth c A H hx hb hr hlocks hml hts hown hin hP hR0 hD hap hev hz hA hS ls hl
  have hl : lv_has ls 8 [(0, .int u), (1, .int v)] := hl
  have hcu := cnt_le u 15
  have hcv := cnt_le v 14
  refine lv_iload_n hx hb dX7_fits_0 rfl (lv_at hl 0 rfl) ?_
  have hP := hP.sub (ws' := [] ++ []) [] rfl
  have hD := hD.sub (ws' := [] ++ []) [] (by decide) rfl
  refine xci (va_runS (As := [.int u]) (rest := []) ⟨hx, hb, hml, hown, hts⟩ (kX7_partsOfPattern l E u  H.size) (va_cwS 1 hts gX7_fits_X7_partsOfPattern rfl rfl rfl (by decide +kernel) ⟨Nat.le_of_ble_eq_true rfl, Nat.le_of_ble_eq_true rfl⟩) ⟨CP.blind, (xpre hev hz hA hP hD hS hR0 hap [] rfl)⟩ rfl rfl hl.1 rfl (lv_room (Nat.le_of_ble_eq_true rfl)) dX7_fits_1 ⟨Nat.le_of_ble_eq_true rfl, Nat.le_of_ble_eq_true rfl⟩) hP hD hS hA (fun r1 w2 H locs h3 hP hD hS => ?_)
  obtain ⟨rfl, rfl, h3⟩ := h3
  try dsimp only at h3
  have hP : va_P E.1 vwCl [] H := hP
  have hD : va_D A [] := hD
  refine lv_istore_n (lv' := [(2, .int (nI (cnt u 15))), (0, .int u), (1, .int v)]) hx hb dX7_fits_4 rfl hl (by decide) rfl (fun ls hl => ?_)
  refine lv_iload_n hx hb dX7_fits_5 rfl (lv_at hl 2 rfl) ?_
  have hP := hP.sub (ws' := [] ++ []) [] rfl
  have hD := hD.sub (ws' := [] ++ []) [] (by decide) rfl
  refine xci (va_runS (As := [.int v]) (rest := []) ⟨hx, hb, hml, hown, hts⟩ (kX7_partsOfPath l E v  H.size) (va_cwS 1 hts gX7_fits_X7_partsOfPath rfl rfl rfl (by decide +kernel) ⟨Nat.le_of_ble_eq_true rfl, Nat.le_of_ble_eq_true rfl⟩) ⟨CP.blind, (xpre hev hz hA hP hD hS hR0 hap [] rfl)⟩ rfl rfl hl.1 rfl (lv_room (Nat.le_of_ble_eq_true rfl)) dX7_fits_6 ⟨Nat.le_of_ble_eq_true rfl, Nat.le_of_ble_eq_true rfl⟩) hP hD hS hA (fun r4 w5 H locs h6 hP hD hS => ?_)
  obtain ⟨rfl, rfl, h6⟩ := h6
  try dsimp only at h6
  have hP : va_P E.1 vwCl [] H := hP
  have hD : va_D A [] := hD
  refine lv_iload_n hx hb dX7_fits_9 rfl (lv_at hl 0 rfl) ?_
  refine lv_isub hx hb dX7_fits_10 ?_
  refine lv_istore_n (lv' := [(3, .int ((nI (cnt v 14)) - (nI (cnt u 15)))), (2, .int (nI (cnt u 15))), (0, .int u), (1, .int v)]) hx hb dX7_fits_11 rfl hl (by decide) rfl (fun ls hl => ?_)
  refine lv_iload_n hx hb dX7_fits_12 rfl (lv_at hl 0 rfl) ?_
  refine lv_if_ge (tgt := 18) hx hb dX7_fits_13 (by decide) (fun c7 => ?_) (fun c7 => ?_)
  · skip
    have hle : cnt u 15 ≤ cnt v 14 := Nat.le_of_not_lt (fun q => absurd (pk_sneg (by omega) q) (Int32.not_lt.mpr c7))
    rw [pk_sub hle] at hl
    refine lv_iload_n hx hb dX7_fits_18 rfl (lv_at hl 3 rfl) ?_
    refine lv_iload_n hx hb dX7_fits_19 rfl (lv_at hl 0 rfl) ?_
    refine lv_iconst (v := 4) hx hb dX7_fits_20 (by decide) ?_
    refine lv_imul hx hb dX7_fits_21 ?_
    refine xtop (y := nI ((cnt v 14 - cnt u 15) * 4)) (pk_mul _ _) ?_
    refine lv_iushr (v := (v.toUInt32 >>> ((nI ((cnt v 14 - cnt u 15) * 4)).toUInt32 &&& Int32.toUInt32 31)).toInt32) hx hb dX7_fits_22 rfl ?_
    refine lv_topi (fun v8 ev8 => ?_)
    refine lv_istore (lv' := [(4, .int v8), (3, .int (nI (cnt v 14 - cnt u 15))), (2, .int (nI (cnt u 15))), (0, .int u), (1, .int v)]) hx hb dX7_fits_23 hl (by decide) rfl (fun ls hl => ?_)
    refine lv_iconst (v := 0) hx hb dX7_fits_25 (by decide) ?_
    refine lv_istore (lv' := [(5, .int 0), (4, .int v8), (3, .int (nI (cnt v 14 - cnt u 15))), (2, .int (nI (cnt u 15))), (0, .int u), (1, .int v)]) hx hb dX7_fits_26 hl (by decide) rfl (fun ls hl => ?_)
    have loop28 : ∀ (fz : Nat) (i : Nat), (i ≤ cnt u 15) → (∀ n, n < i → ((jus u (nI (n * 4)) &&& 15) = 15 ∨ (jus u (nI (n * 4)) &&& 15) = (jus (jus v (nI ((cnt v 14 - cnt u 15) * 4))) (nI (n * 4)) &&& 15))) → (cnt u 15 - i < fz) → ∀ (H : Heap) (locs : List Loc), va_P E.1 vwCl [] H → va_D A [] → va_S A s.heap H locs → ∀ ls : Array Slot, lv_has ls 8 [(5, .int (nI i)), (2, .int (nI (cnt u 15))), (0, .int u), (4, .int v8)] → W p l e ({ frames := 2, cells := 0, slots := 0, locals := 44 } : Room) s m ([.int u, .int v] : List Value).toArray below meth c H locs 0 0 (MQ below (QI E (pX7_fits E u v) A) ([.int u, .int v] : List Value).toArray s 0 0 A) (F0 m 28 ls []) := by
      intro fz
      induction fz with
      | zero =>
        intro i hi hall hfuel
        exact absurd hfuel (by omega)
      | succ fz ih =>
        intro i hi hall hfuel H locs hP hD hS ls hl
        refine lv_iload hx hb dX7_fits_28 (lv_at hl 0 rfl) ?_
        refine lv_iload_n hx hb dX7_fits_30 rfl (lv_at hl 1 rfl) ?_
        refine lv_icmp_ge (tgt := 79) hx hb dX7_fits_31 (by decide) (fun c9 => ?_) (fun c9 => ?_)
        · skip
          have kc9 : (cnt u 15) ≤ i := (nI_leI (a := (cnt u 15)) (b := i) (by omega) (by omega)).mp c9
          refine lv_iconst (v := 1) hx hb dX7_fits_79 (by decide) ?_
          refine xrz hx hb hr hlocks (by first | rfl | decide) hP hD hS ⟨rfl, ?_, ?_⟩ dX7_fits_80
          · exact (b1_t ⟨hle, fun n hn => hall n (by omega)⟩).symm
          · trivial
        · skip
          have kc9 : ¬ (cnt u 15) ≤ i := fun h9 => c9 ((nI_leI (a := (cnt u 15)) (b := i) (by omega) (by omega)).mpr h9)
          refine lv_iload_n hx hb dX7_fits_34 rfl (lv_at hl 2 rfl) ?_
          refine lv_iload hx hb dX7_fits_35 (lv_at hl 0 rfl) ?_
          refine lv_iconst (v := 4) hx hb dX7_fits_37 (by decide) ?_
          refine lv_imul hx hb dX7_fits_38 ?_
          refine xtop (y := nI (i * 4)) (pk_mul _ _) ?_
          refine lv_iushr (v := (u.toUInt32 >>> ((nI (i * 4)).toUInt32 &&& Int32.toUInt32 31)).toInt32) hx hb dX7_fits_39 rfl ?_
          refine lv_bipush (v := 15) hx hb dX7_fits_40 (by decide) ?_
          refine lv_iand hx hb dX7_fits_42 ?_
          refine lv_topi (fun v10 ev10 => ?_)
          refine lv_istore (lv' := [(6, .int v10), (5, .int (nI i)), (2, .int (nI (cnt u 15))), (0, .int u), (4, .int v8)]) hx hb dX7_fits_43 hl (by decide) rfl (fun ls hl => ?_)
          refine lv_iload hx hb dX7_fits_45 (lv_at hl 4 rfl) ?_
          refine lv_iload hx hb dX7_fits_47 (lv_at hl 1 rfl) ?_
          refine lv_iconst (v := 4) hx hb dX7_fits_49 (by decide) ?_
          refine lv_imul hx hb dX7_fits_50 ?_
          refine xtop (y := nI (i * 4)) (pk_mul _ _) ?_
          refine lv_iushr (v := (v8.toUInt32 >>> ((nI (i * 4)).toUInt32 &&& Int32.toUInt32 31)).toInt32) hx hb dX7_fits_51 rfl ?_
          refine lv_bipush (v := 15) hx hb dX7_fits_52 (by decide) ?_
          refine lv_iand hx hb dX7_fits_54 ?_
          refine lv_topi (fun v11 ev11 => ?_)
          refine lv_istore (lv' := [(7, .int v11), (6, .int v10), (5, .int (nI i)), (2, .int (nI (cnt u 15))), (0, .int u), (4, .int v8)]) hx hb dX7_fits_55 hl (by decide) rfl (fun ls hl => ?_)
          refine lv_iload hx hb dX7_fits_57 (lv_at hl 1 rfl) ?_
          refine lv_bipush (v := 15) hx hb dX7_fits_59 (by decide) ?_
          refine lv_icmp_eq (tgt := 73) hx hb dX7_fits_61 (by decide) (fun c12 => ?_) (fun c12 => ?_)
          · skip
            refine lv_iinc (v := nI (i + 1)) (lv' := [(5, .int (nI (i + 1))), (7, .int v11), (6, .int v10), (2, .int (nI (cnt u 15))), (0, .int u), (4, .int v8)]) hx hb dX7_fits_73 hl (k := 2) rfl ((nI_add i 1).trans (congrArg nI (by omega))) (by decide) rfl (fun ls hl => ?_)
            refine lv_goto (tgt := 28) hx hb dX7_fits_76 (by decide) ?_
            exact ih  (i + 1) (by omega) (lt_s hall (Or.inl (ev10.symm.trans c12))) (by omega) _ _ hP hD hS ls (lv_sub hl [0, 3, 4, 5] rfl)
          · skip
            refine lv_iload hx hb dX7_fits_64 (lv_at hl 1 rfl) ?_
            refine lv_iload hx hb dX7_fits_66 (lv_at hl 0 rfl) ?_
            refine lv_icmp_eq (tgt := 73) hx hb dX7_fits_68 (by decide) (fun c13 => ?_) (fun c13 => ?_)
            · skip
              refine lv_iinc (v := nI (i + 1)) (lv' := [(5, .int (nI (i + 1))), (7, .int v11), (6, .int v10), (2, .int (nI (cnt u 15))), (0, .int u), (4, .int v8)]) hx hb dX7_fits_73 hl (k := 2) rfl ((nI_add i 1).trans (congrArg nI (by omega))) (by decide) rfl (fun ls hl => ?_)
              refine lv_goto (tgt := 28) hx hb dX7_fits_76 (by decide) ?_
              exact ih  (i + 1) (by omega) (lt_s hall (Or.inr (by have q := ev10.symm.trans (c13.trans ev11); rw [ev8] at q; exact q))) (by omega) _ _ hP hD hS ls (lv_sub hl [0, 3, 4, 5] rfl)
            · skip
              refine lv_iconst (v := 0) hx hb dX7_fits_71 (by decide) ?_
              refine xrz hx hb hr hlocks (by first | rfl | decide) hP hD hS ⟨rfl, ?_, ?_⟩ dX7_fits_72
              · exact (b1_f (fun h9 => (h9.2 i (by omega)).elim (fun q => c12 (ev10.trans q)) (fun q => c13 (by rw [ev10, ev11, ev8]; exact q)))).symm
              · trivial
    exact loop28 (cnt u 15 + 1) 0 (by omega) (fun _ h => absurd h (by omega)) (by omega) _ _ hP hD hS ls (lv_sub hl [0, 3, 4, 1] rfl)
  · skip
    have hlt : ¬ cnt u 15 ≤ cnt v 14 := fun q => c7 (by rw [pk_sub q]; exact nI_pos' (by omega))
    refine lv_iconst (v := 0) hx hb dX7_fits_16 (by decide) ?_
    refine xrz hx hb hr hlocks (by first | rfl | decide) hP hD hS ⟨rfl, ?_, ?_⟩ dX7_fits_17
    · exact (b1_f (fun h9 => hlt h9.1)).symm
    · trivial
