abbrev pX8_fits (E : xE) (u : Int32) (v : Int32) (r : Int32) (w : va_W) : Prop := w = [] ∧ r = b1 (fitP u v) ∧ (True)
set_option maxHeartbeats 4000000 in
set_option maxRecDepth 100000 in
theorem kX8_fits (l : Launch) (E : xE) (u : Int32) (v : Int32)  : KT l yX8_fits wsX8_fits 1 23 0 0 E [] [] [.int u, .int v] (QI E (pX8_fits E u v)) := by
  refine KT.start (cc := cX8_fits) (maxL := 7) (ret := (some .boolean)) (by decide) rfl (Nat.le_of_ble_eq_true rfl) ?_
  intro p e s m below meth c A H hx hb hr hlocks hml hts hown hin hP hR0 hD hap hev hz hA hS ls hl
  have hl : lv_has ls 7 [(0, .int u), (1, .int v)] := hl
  have hcu := cnt_le u 15
  have hcv := cnt_le v 14
  refine lv_iload_n hx hb dX8_fits_0 rfl (lv_at hl 0 rfl) ?_
  refine lv_bipush (v := 15) hx hb dX8_fits_1 (by decide) ?_
  have hP := hP.sub (ws' := [] ++ []) [] rfl
  have hD := hD.sub (ws' := [] ++ []) [] (by decide) rfl
  refine xci (va_runS (As := [.int u, .int 15]) (rest := []) ⟨hx, hb, hml, hown, hts⟩ (kX8_parts15 l E u  H.size) (va_cwS 2 hts gX8_fits_X8_partsOf rfl rfl rfl (by decide +kernel) ⟨Nat.le_of_ble_eq_true rfl, Nat.le_of_ble_eq_true rfl⟩) ⟨CP.blind, (xpre hev hz hA hP hD hS hR0 hap [] rfl)⟩ rfl rfl hl.1 rfl (lv_room (Nat.le_of_ble_eq_true rfl)) dX8_fits_3 ⟨Nat.le_of_ble_eq_true rfl, Nat.le_of_ble_eq_true rfl⟩) hP hD hS hA (fun r1 w2 H locs h3 hP hD hS => ?_)
  obtain ⟨rfl, rfl, h3⟩ := h3
  try dsimp only at h3
  have hP : va_P E.1 vwCl [] H := hP
  have hD : va_D A [] := hD
  refine lv_istore_n (lv' := [(2, .int (nI (cnt u 15))), (0, .int u), (1, .int v)]) hx hb dX8_fits_6 rfl hl (by decide) rfl (fun ls hl => ?_)
  refine lv_iload_n hx hb dX8_fits_7 rfl (lv_at hl 2 rfl) ?_
  refine lv_bipush (v := 14) hx hb dX8_fits_8 (by decide) ?_
  have hP := hP.sub (ws' := [] ++ []) [] rfl
  have hD := hD.sub (ws' := [] ++ []) [] (by decide) rfl
  refine xci (va_runS (As := [.int v, .int 14]) (rest := []) ⟨hx, hb, hml, hown, hts⟩ (kX8_parts14 l E v  H.size) (va_cwS 2 hts gX8_fits_X8_partsOf rfl rfl rfl (by decide +kernel) ⟨Nat.le_of_ble_eq_true rfl, Nat.le_of_ble_eq_true rfl⟩) ⟨CP.blind, (xpre hev hz hA hP hD hS hR0 hap [] rfl)⟩ rfl rfl hl.1 rfl (lv_room (Nat.le_of_ble_eq_true rfl)) dX8_fits_10 ⟨Nat.le_of_ble_eq_true rfl, Nat.le_of_ble_eq_true rfl⟩) hP hD hS hA (fun r4 w5 H locs h6 hP hD hS => ?_)
  obtain ⟨rfl, rfl, h6⟩ := h6
  try dsimp only at h6
  have hP : va_P E.1 vwCl [] H := hP
  have hD : va_D A [] := hD
  refine lv_istore_n (lv' := [(3, .int (nI (cnt v 14))), (2, .int (nI (cnt u 15))), (0, .int u), (1, .int v)]) hx hb dX8_fits_13 rfl hl (by decide) rfl (fun ls hl => ?_)
  refine lv_iload_n hx hb dX8_fits_14 rfl (lv_at hl 1 rfl) ?_
  refine lv_iload_n hx hb dX8_fits_15 rfl (lv_at hl 0 rfl) ?_
  refine lv_icmp_le (tgt := 21) hx hb dX8_fits_16 (by decide) (fun c7 => ?_) (fun c7 => ?_)
  · skip
    have kc7 : (cnt u 15) ≤ (cnt v 14) := (nI_leI (a := (cnt u 15)) (b := (cnt v 14)) (by omega) (by omega)).mp c7
    refine lv_iconst (v := 1) hx hb dX8_fits_21 (by decide) ?_
    refine xtop (y := b1 (mft u v (cnt u 15) (cnt v 14) 0)) ((b1_t (fun i h9 => absurd h9 (by omega))).symm) ?_
    refine lv_istore (lv' := [(4, .int (b1 (mft u v (cnt u 15) (cnt v 14) 0))), (3, .int (nI (cnt v 14))), (2, .int (nI (cnt u 15))), (0, .int u), (1, .int v)]) hx hb dX8_fits_22 hl (by decide) rfl (fun ls hl => ?_)
    refine lv_iconst (v := 0) hx hb dX8_fits_24 (by decide) ?_
    refine lv_istore (lv' := [(5, .int 0), (4, .int (b1 (mft u v (cnt u 15) (cnt v 14) 0))), (3, .int (nI (cnt v 14))), (2, .int (nI (cnt u 15))), (0, .int u), (1, .int v)]) hx hb dX8_fits_25 hl (by decide) rfl (fun ls hl => ?_)
    have loop27 : ∀ (fz27 : Nat) (k : Nat), (k ≤ cnt u 15) → (cnt u 15 - k < fz27) → ∀ (H : Heap) (locs : List Loc), va_P E.1 vwCl [] H → va_D A [] → va_S A s.heap H locs → ∀ ls : Array Slot, lv_has ls 7 [(5, .int (nI k)), (4, .int (b1 (mft u v (cnt u 15) (cnt v 14) k))), (2, .int (nI (cnt u 15))), (3, .int (nI (cnt v 14))), (0, .int u), (1, .int v)] → W p l e ({ frames := 1, cells := 0, slots := 0, locals := 23 } : Room) s m ([.int u, .int v] : List Value).toArray below meth c H locs 0 0 (MQ below (QI E (pX8_fits E u v) A) ([.int u, .int v] : List Value).toArray s 0 0 A) (F0 m 27 ls []) := by
      intro fz27
      induction fz27 with
      | zero =>
        intro k hk hfuel
        exact absurd hfuel (by omega)
      | succ fz27 ih27 =>
        intro k hk hfuel H locs hP hD hS ls hl
        refine lv_iload hx hb dX8_fits_27 (lv_at hl 0 rfl) ?_
        refine lv_iload_n hx hb dX8_fits_29 rfl (lv_at hl 2 rfl) ?_
        refine lv_icmp_ge (tgt := 91) hx hb dX8_fits_30 (by decide) (fun c8 => ?_) (fun c8 => ?_)
        · skip
          have kc8 : (cnt u 15) ≤ k := (nI_leI (a := (cnt u 15)) (b := k) (by omega) (by omega)).mp c8
          refine lv_iload hx hb dX8_fits_91 (lv_at hl 1 rfl) ?_
          refine xrz hx hb hr hlocks (by first | rfl | decide | exact b1_narrow _) hP hD hS ⟨rfl, ?_, ?_⟩ dX8_fits_93
          · have e9 : k = cnt u 15 := by omega
            rw [e9]
            exact b1_c (fit_iff kc7)
          · trivial
        · skip
          have kc8 : ¬ (cnt u 15) ≤ k := fun h9 => c8 ((nI_leI (a := (cnt u 15)) (b := k) (by omega) (by omega)).mpr h9)
          refine lv_iload_n hx hb dX8_fits_33 rfl (lv_at hl 4 rfl) ?_
          refine lv_iconst (v := 4) hx hb dX8_fits_34 (by decide) ?_
          refine lv_iload_n hx hb dX8_fits_35 rfl (lv_at hl 2 rfl) ?_
          refine lv_iconst (v := 1) hx hb dX8_fits_36 (by decide) ?_
          refine lv_isub hx hb dX8_fits_37 ?_
          refine xtop (y := nI ((cnt u 15) - 1)) (pk_sub (a := (cnt u 15)) (b := 1) (by omega)) ?_
          refine lv_iload hx hb dX8_fits_38 (lv_at hl 0 rfl) ?_
          refine lv_isub hx hb dX8_fits_40 ?_
          refine xtop (y := nI (((cnt u 15) - 1) - k)) (pk_sub (a := ((cnt u 15) - 1)) (b := k) (by omega)) ?_
          refine lv_imul hx hb dX8_fits_41 ?_
          refine xtop (y := nI (4 * (((cnt u 15) - 1) - k))) (pk_mul _ _) ?_
          refine lv_ishr hx hb dX8_fits_42 ?_
          refine lv_bipush (v := 15) hx hb dX8_fits_43 (by decide) ?_
          refine lv_iand hx hb dX8_fits_45 ?_
          refine lv_istore (lv' := [(6, .int ((u >>> ((nI (4 * (((cnt u 15) - 1) - k))) &&& 31)) &&& 15)), (5, .int (nI k)), (4, .int (b1 (mft u v (cnt u 15) (cnt v 14) k))), (2, .int (nI (cnt u 15))), (3, .int (nI (cnt v 14))), (0, .int u), (1, .int v)]) hx hb dX8_fits_46 hl (by decide) rfl (fun ls hl => ?_)
          refine lv_iload hx hb dX8_fits_48 (lv_at hl 2 rfl) ?_
          refine lv_if_eq (tgt := 82) hx hb dX8_fits_50 (by decide) (fun c9 => ?_) (fun c9 => ?_)
          · skip
            have kc9 := b1_0.mp c9
            refine lv_iconst (v := 0) hx hb dX8_fits_82 (by decide) ?_
            refine xtop (y := b1 (mft u v (cnt u 15) (cnt v 14) (k + 1))) ((b1_f (mft_f kc9)).symm) ?_
            refine lv_istore (lv' := [(4, .int (b1 (mft u v (cnt u 15) (cnt v 14) (k + 1)))), (6, .int ((u >>> ((nI (4 * (((cnt u 15) - 1) - k))) &&& 31)) &&& 15)), (5, .int (nI k)), (2, .int (nI (cnt u 15))), (3, .int (nI (cnt v 14))), (0, .int u), (1, .int v)]) hx hb dX8_fits_83 hl (by decide) rfl (fun ls hl => ?_)
            refine lv_iinc (v := nI (k + 1)) (lv' := [(5, .int (nI (k + 1))), (4, .int (b1 (mft u v (cnt u 15) (cnt v 14) (k + 1)))), (6, .int ((u >>> ((nI (4 * (((cnt u 15) - 1) - k))) &&& 31)) &&& 15)), (2, .int (nI (cnt u 15))), (3, .int (nI (cnt v 14))), (0, .int u), (1, .int v)]) hx hb dX8_fits_85 hl (k := 2) rfl ((nI_add k 1).trans (congrArg nI (by omega))) (by decide) rfl (fun ls hl => ?_)
            refine lv_goto (tgt := 27) hx hb dX8_fits_88 (by decide) ?_
            exact ih27  (k + 1) (by omega) (by omega) _ _ hP hD hS ls (lv_sub hl [0, 1, 3, 4, 5, 6] rfl)
          · skip
            have kc9 := b1_n.mp c9
            refine lv_iload hx hb dX8_fits_53 (lv_at hl 0 rfl) ?_
            refine lv_bipush (v := 15) hx hb dX8_fits_55 (by decide) ?_
            refine lv_icmp_eq (tgt := 78) hx hb dX8_fits_57 (by decide) (fun c10 => ?_) (fun c10 => ?_)
            · skip
              refine lv_iconst (v := 1) hx hb dX8_fits_78 (by decide) ?_
              refine lv_goto (tgt := 83) hx hb dX8_fits_79 (by decide) ?_
              refine xtop (y := b1 (mft u v (cnt u 15) (cnt v 14) (k + 1))) ((b1_t (mft_t kc9 (Or.inl c10))).symm) ?_
              refine lv_istore (lv' := [(4, .int (b1 (mft u v (cnt u 15) (cnt v 14) (k + 1)))), (6, .int ((u >>> ((nI (4 * (((cnt u 15) - 1) - k))) &&& 31)) &&& 15)), (5, .int (nI k)), (2, .int (nI (cnt u 15))), (3, .int (nI (cnt v 14))), (0, .int u), (1, .int v)]) hx hb dX8_fits_83 hl (by decide) rfl (fun ls hl => ?_)
              refine lv_iinc (v := nI (k + 1)) (lv' := [(5, .int (nI (k + 1))), (4, .int (b1 (mft u v (cnt u 15) (cnt v 14) (k + 1)))), (6, .int ((u >>> ((nI (4 * (((cnt u 15) - 1) - k))) &&& 31)) &&& 15)), (2, .int (nI (cnt u 15))), (3, .int (nI (cnt v 14))), (0, .int u), (1, .int v)]) hx hb dX8_fits_85 hl (k := 2) rfl ((nI_add k 1).trans (congrArg nI (by omega))) (by decide) rfl (fun ls hl => ?_)
              refine lv_goto (tgt := 27) hx hb dX8_fits_88 (by decide) ?_
              exact ih27  (k + 1) (by omega) (by omega) _ _ hP hD hS ls (lv_sub hl [0, 1, 3, 4, 5, 6] rfl)
            · skip
              refine lv_iload hx hb dX8_fits_60 (lv_at hl 0 rfl) ?_
              refine lv_iload_n hx hb dX8_fits_62 rfl (lv_at hl 6 rfl) ?_
              refine lv_iconst (v := 4) hx hb dX8_fits_63 (by decide) ?_
              refine lv_iload_n hx hb dX8_fits_64 rfl (lv_at hl 4 rfl) ?_
              refine lv_iconst (v := 1) hx hb dX8_fits_65 (by decide) ?_
              refine lv_isub hx hb dX8_fits_66 ?_
              refine xtop (y := nI ((cnt v 14) - 1)) (pk_sub (a := (cnt v 14)) (b := 1) (by omega)) ?_
              refine lv_iload hx hb dX8_fits_67 (lv_at hl 1 rfl) ?_
              refine lv_isub hx hb dX8_fits_69 ?_
              refine xtop (y := nI (((cnt v 14) - 1) - k)) (pk_sub (a := ((cnt v 14) - 1)) (b := k) (by omega)) ?_
              refine lv_imul hx hb dX8_fits_70 ?_
              refine xtop (y := nI (4 * (((cnt v 14) - 1) - k))) (pk_mul _ _) ?_
              refine lv_ishr hx hb dX8_fits_71 ?_
              refine lv_bipush (v := 15) hx hb dX8_fits_72 (by decide) ?_
              refine lv_iand hx hb dX8_fits_74 ?_
              refine lv_icmp_ne (tgt := 82) hx hb dX8_fits_75 (by decide) (fun c11 => ?_) (fun c11 => ?_)
              · skip
                refine lv_iconst (v := 0) hx hb dX8_fits_82 (by decide) ?_
                refine xtop (y := b1 (mft u v (cnt u 15) (cnt v 14) (k + 1))) ((b1_f (mft_g (fun z => z.elim c10 c11))).symm) ?_
                refine lv_istore (lv' := [(4, .int (b1 (mft u v (cnt u 15) (cnt v 14) (k + 1)))), (6, .int ((u >>> ((nI (4 * (((cnt u 15) - 1) - k))) &&& 31)) &&& 15)), (5, .int (nI k)), (2, .int (nI (cnt u 15))), (3, .int (nI (cnt v 14))), (0, .int u), (1, .int v)]) hx hb dX8_fits_83 hl (by decide) rfl (fun ls hl => ?_)
                refine lv_iinc (v := nI (k + 1)) (lv' := [(5, .int (nI (k + 1))), (4, .int (b1 (mft u v (cnt u 15) (cnt v 14) (k + 1)))), (6, .int ((u >>> ((nI (4 * (((cnt u 15) - 1) - k))) &&& 31)) &&& 15)), (2, .int (nI (cnt u 15))), (3, .int (nI (cnt v 14))), (0, .int u), (1, .int v)]) hx hb dX8_fits_85 hl (k := 2) rfl ((nI_add k 1).trans (congrArg nI (by omega))) (by decide) rfl (fun ls hl => ?_)
                refine lv_goto (tgt := 27) hx hb dX8_fits_88 (by decide) ?_
                exact ih27  (k + 1) (by omega) (by omega) _ _ hP hD hS ls (lv_sub hl [0, 1, 3, 4, 5, 6] rfl)
              · skip
                refine lv_iconst (v := 1) hx hb dX8_fits_78 (by decide) ?_
                refine lv_goto (tgt := 83) hx hb dX8_fits_79 (by decide) ?_
                refine xtop (y := b1 (mft u v (cnt u 15) (cnt v 14) (k + 1))) ((b1_t (mft_t kc9 (Or.inr c11))).symm) ?_
                refine lv_istore (lv' := [(4, .int (b1 (mft u v (cnt u 15) (cnt v 14) (k + 1)))), (6, .int ((u >>> ((nI (4 * (((cnt u 15) - 1) - k))) &&& 31)) &&& 15)), (5, .int (nI k)), (2, .int (nI (cnt u 15))), (3, .int (nI (cnt v 14))), (0, .int u), (1, .int v)]) hx hb dX8_fits_83 hl (by decide) rfl (fun ls hl => ?_)
                refine lv_iinc (v := nI (k + 1)) (lv' := [(5, .int (nI (k + 1))), (4, .int (b1 (mft u v (cnt u 15) (cnt v 14) (k + 1)))), (6, .int ((u >>> ((nI (4 * (((cnt u 15) - 1) - k))) &&& 31)) &&& 15)), (2, .int (nI (cnt u 15))), (3, .int (nI (cnt v 14))), (0, .int u), (1, .int v)]) hx hb dX8_fits_85 hl (k := 2) rfl ((nI_add k 1).trans (congrArg nI (by omega))) (by decide) rfl (fun ls hl => ?_)
                refine lv_goto (tgt := 27) hx hb dX8_fits_88 (by decide) ?_
                exact ih27  (k + 1) (by omega) (by omega) _ _ hP hD hS ls (lv_sub hl [0, 1, 3, 4, 5, 6] rfl)
    exact loop27 (cnt u 15 + 1) 0 (by omega) (by omega) _ _ hP hD hS ls (lv_sub hl [0, 1, 3, 2, 4, 5] rfl)
  · skip
    have kc7 : ¬ (cnt u 15) ≤ (cnt v 14) := fun h9 => c7 ((nI_leI (a := (cnt u 15)) (b := (cnt v 14)) (by omega) (by omega)).mpr h9)
    refine lv_iconst (v := 0) hx hb dX8_fits_19 (by decide) ?_
    refine xrz hx hb hr hlocks (by first | rfl | decide | exact b1_narrow _) hP hD hS ⟨rfl, ?_, ?_⟩ dX8_fits_20
    · exact (b1_f (fun z => absurd z.1 kc7)).symm
    · trivial

abbrev pX8_hasPath (E : xE) (mo : Nat) (ad : Nat → Nat) (th : Int32) (kn : Nat) (rn : Nat) (mn : Nat) (dp : Nat) (am : Nat → Nat → Int32) (al : Nat → Nat → Int64) (pq : Nat → Nat → Nat) (k : Nat) (x : Int32) (r : Int32) (w : va_W) : Prop := w = [] ∧ r = b1 (∃ i, i < pq k 13 ∧ am 23 (6 * k + i) = x) ∧ (True)
set_option maxHeartbeats 4000000 in
set_option maxRecDepth 100000 in
theorem kX8_hasPath (l : Launch) (E : xE) (mo : Nat) (ad : Nat → Nat) (th : Int32) (kn : Nat) (rn : Nat) (mn : Nat) (dp : Nat) (am : Nat → Nat → Int32) (al : Nat → Nat → Int64) (pq : Nat → Nat → Nat) (k : Nat) (x : Int32) (hmk : mOk rn am pq) (hrn : rn ≤ 24) (hk : k < rn) : KT l yX8_hasPath wsX8_hasPath 0 0 0 0 E [] [(mo, .inr (9, mOb ad th (nI kn) (nI rn) (nI mn) (nI dp))), (ad 22, aI E 24 (am 22)), (ad 23, aI E 144 (am 23))] [.ref mo, .int (nI k), .int x] (QI E (pX8_hasPath E mo ad th kn rn mn dp am al pq k x)) := by
  refine KT.start (cc := cX8_hasPath) (maxL := 5) (ret := (some .boolean)) (by decide) rfl (Nat.le_of_ble_eq_true rfl) ?_
  intro p e s m below meth c A H hx hb hr hlocks hml hts hown hin hP hR0 hD hap hev hz hA hS ls hl
  have hl : lv_has ls 5 [(0, .ref mo), (1, .int (nI k)), (2, .int x)] := hl
  have hiX8 : ∀ w ∈ wsX80, w ∈ wsX8_hasPath := fun _ h => List.mem_cons_of_mem _ (List.mem_append_right _ h)
  have hf69 := hts (.fieldLink RX8 69 "SignQuorumModel" "paths" "[I") (by decide +kernel)
  have hf72 := hts (.fieldLink RX8 72 "SignQuorumModel" "path" "[I") (by decide +kernel)
  obtain ⟨h10, h12, h15, h18, h22, h24, hb10, hb12, hb15, hb18, hb22, hb24⟩ := hmk k (hk)
  refine lv_iconst (v := 0) hx hb dX8_hasPath_0 (by decide) ?_
  refine xtop (y := b1 (∃ i, i < 0 ∧ am 23 (6 * k + i) = x)) ((b1_f (fun ⟨i, h9, _⟩ => absurd h9 (by omega))).symm) ?_
  refine lv_istore_n (lv' := [(3, .int (b1 (∃ i, i < 0 ∧ am 23 (6 * k + i) = x))), (0, .ref mo), (1, .int (nI k)), (2, .int x)]) hx hb dX8_hasPath_1 rfl hl (by decide) rfl (fun ls hl => ?_)
  refine lv_bipush (v := 6) hx hb dX8_hasPath_2 (by decide) ?_
  refine lv_iload_n hx hb dX8_hasPath_4 rfl (lv_at hl 2 rfl) ?_
  refine lv_imul hx hb dX8_hasPath_5 ?_
  refine xtop (y := nI (6 * k)) (pk_mul _ _) ?_
  refine lv_istore (lv' := [(4, .int (nI (6 * k))), (3, .int (b1 (∃ i, i < 0 ∧ am 23 (6 * k + i) = x))), (0, .ref mo), (1, .int (nI k)), (2, .int x)]) hx hb dX8_hasPath_6 hl (by decide) rfl (fun ls hl => ?_)
  have loop8 : ∀ (fz8 : Nat) (n : Nat), (n ≤ pq k 13) → (pq k 13 - n < fz8) → ∀ (H : Heap) (locs : List Loc), va_P E.1 vwCl [] H → va_D A [] → va_S A s.heap H locs → ∀ ls : Array Slot, lv_has ls 5 [(4, .int (nI (6 * k + n))), (3, .int (b1 (∃ i, i < n ∧ am 23 (6 * k + i) = x))), (0, .ref mo), (1, .int (nI k)), (2, .int x)] → W p l e ({ frames := 0, cells := 0, slots := 0, locals := 0 } : Room) s m ([.ref mo, .int (nI k), .int x] : List Value).toArray below meth c H locs 0 0 (MQ below (QI E (pX8_hasPath E mo ad th kn rn mn dp am al pq k x) A) ([.ref mo, .int (nI k), .int x] : List Value).toArray s 0 0 A) (F0 m 8 ls []) := by
    intro fz8
    induction fz8 with
    | zero =>
      intro n hn hfuel
      exact absurd hfuel (by omega)
    | succ fz8 ih8 =>
      intro n hn hfuel H locs hP hD hS ls hl
      refine lv_iload hx hb dX8_hasPath_8 (lv_at hl 0 rfl) ?_
      refine lv_bipush (v := 6) hx hb dX8_hasPath_10 (by decide) ?_
      refine lv_iload_n hx hb dX8_hasPath_12 rfl (lv_at hl 3 rfl) ?_
      refine lv_imul hx hb dX8_hasPath_13 ?_
      refine xtop (y := nI (6 * k)) (pk_mul _ _) ?_
      refine lv_aload_n hx hb dX8_hasPath_14 rfl (lv_at hl 2 rfl) ?_
      refine xgt TX8_22 (v := .ref (ad 22)) hx hb hts hiX8 hown hev.1 (xro hR0 hap hS) 0 rfl (by decide) hf69 rfl dX8_hasPath_15 ?_
      refine lv_iload_n hx hb dX8_hasPath_18 rfl (lv_at hl 3 rfl) ?_
      refine xiald (k := (k)) hx hb hev.1 (xro hR0 hap hS) 1 1 rfl rfl (by omega) (by decide) dX8_hasPath_19 ?_
      refine xtop (y := nI (pq k 13)) (h22) ?_
      refine lv_iadd hx hb dX8_hasPath_20 ?_
      refine xtop (y := nI (6 * k + (pq k 13))) ((nI_add (6 * k) (pq k 13)).trans (congrArg nI (by omega))) ?_
      refine lv_icmp_ge (tgt := 51) hx hb dX8_hasPath_21 (by decide) (fun c1 => ?_) (fun c1 => ?_)
      · skip
        have kc1 : (6 * k + (pq k 13)) ≤ (6 * k + n) := (nI_leI (a := (6 * k + (pq k 13))) (b := (6 * k + n)) (by omega) (by omega)).mp c1
        refine lv_iload_n hx hb dX8_hasPath_51 rfl (lv_at hl 1 rfl) ?_
        refine xrz hx hb hr hlocks (by first | rfl | decide | exact b1_narrow _) hP hD hS ⟨rfl, ?_, ?_⟩ dX8_hasPath_52
        · have e9 : n = pq k 13 := by omega
          rw [e9]
        · trivial
      · skip
        have kc1 : ¬ (6 * k + (pq k 13)) ≤ (6 * k + n) := fun h9 => c1 ((nI_leI (a := (6 * k + (pq k 13))) (b := (6 * k + n)) (by omega) (by omega)).mpr h9)
        refine lv_iload_n hx hb dX8_hasPath_24 rfl (lv_at hl 1 rfl) ?_
        refine lv_if_ne (tgt := 39) hx hb dX8_hasPath_25 (by decide) (fun c2 => ?_) (fun c2 => ?_)
        · skip
          have kc2 := b1_n.mp c2
          refine lv_iconst (v := 1) hx hb dX8_hasPath_39 (by decide) ?_
          refine lv_goto (tgt := 44) hx hb dX8_hasPath_40 (by decide) ?_
          refine xtop (y := b1 (∃ i, i < (n + 1) ∧ am 23 (6 * k + i) = x)) ((b1_t (let ⟨i, h1, h2⟩ := kc2; ⟨i, by omega, h2⟩)).symm) ?_
          refine lv_istore_n (lv' := [(3, .int (b1 (∃ i, i < (n + 1) ∧ am 23 (6 * k + i) = x))), (4, .int (nI (6 * k + n))), (0, .ref mo), (1, .int (nI k)), (2, .int x)]) hx hb dX8_hasPath_44 rfl hl (by decide) rfl (fun ls hl => ?_)
          refine lv_iinc (v := nI (6 * k + n + 1)) (lv' := [(4, .int (nI (6 * k + n + 1))), (3, .int (b1 (∃ i, i < (n + 1) ∧ am 23 (6 * k + i) = x))), (0, .ref mo), (1, .int (nI k)), (2, .int x)]) hx hb dX8_hasPath_45 hl (k := 1) rfl ((nI_add (6 * k + n) 1).trans (congrArg nI (by omega))) (by decide) rfl (fun ls hl => ?_)
          refine lv_goto (tgt := 8) hx hb dX8_hasPath_48 (by decide) ?_
          rw [show (6 * k + n + 1 : Nat) = 6 * k + (n + 1) by omega] at hl
          have hl : lv_has ls 5 [(4, .int (nI (6 * k + (n + 1)))), (3, .int (b1 (∃ i, i < (n + 1) ∧ am 23 (6 * k + i) = x))), (0, .ref mo), (1, .int (nI k)), (2, .int x)] := hl
          exact ih8  (n + 1) (by omega) (by omega) _ _ hP hD hS ls (lv_sub hl [0, 1, 2, 3, 4] rfl)
        · skip
          have kc2 := b1_0.mp c2
          refine lv_aload_n hx hb dX8_hasPath_28 rfl (lv_at hl 2 rfl) ?_
          refine xgt TX8_23 (v := .ref (ad 23)) hx hb hts hiX8 hown hev.1 (xro hR0 hap hS) 0 rfl (by decide) hf72 rfl dX8_hasPath_29 ?_
          refine lv_iload hx hb dX8_hasPath_32 (lv_at hl 0 rfl) ?_
          refine xiald (k := (6 * k + n)) hx hb hev.1 (xro hR0 hap hS) 2 1 rfl rfl (by omega) (by decide) dX8_hasPath_34 ?_
          refine lv_iload_n hx hb dX8_hasPath_35 rfl (lv_at hl 4 rfl) ?_
          refine lv_icmp_ne (tgt := 43) hx hb dX8_hasPath_36 (by decide) (fun c3 => ?_) (fun c3 => ?_)
          · skip
            refine lv_iconst (v := 0) hx hb dX8_hasPath_43 (by decide) ?_
            refine xtop (y := b1 (∃ i, i < (n + 1) ∧ am 23 (6 * k + i) = x)) ((b1_f (fun ⟨i, h1, h2⟩ => if e : i = n then c3 (e ▸ h2) else kc2 ⟨i, by omega, h2⟩)).symm) ?_
            refine lv_istore_n (lv' := [(3, .int (b1 (∃ i, i < (n + 1) ∧ am 23 (6 * k + i) = x))), (4, .int (nI (6 * k + n))), (0, .ref mo), (1, .int (nI k)), (2, .int x)]) hx hb dX8_hasPath_44 rfl hl (by decide) rfl (fun ls hl => ?_)
            refine lv_iinc (v := nI (6 * k + n + 1)) (lv' := [(4, .int (nI (6 * k + n + 1))), (3, .int (b1 (∃ i, i < (n + 1) ∧ am 23 (6 * k + i) = x))), (0, .ref mo), (1, .int (nI k)), (2, .int x)]) hx hb dX8_hasPath_45 hl (k := 1) rfl ((nI_add (6 * k + n) 1).trans (congrArg nI (by omega))) (by decide) rfl (fun ls hl => ?_)
            refine lv_goto (tgt := 8) hx hb dX8_hasPath_48 (by decide) ?_
            rw [show (6 * k + n + 1 : Nat) = 6 * k + (n + 1) by omega] at hl
            have hl : lv_has ls 5 [(4, .int (nI (6 * k + (n + 1)))), (3, .int (b1 (∃ i, i < (n + 1) ∧ am 23 (6 * k + i) = x))), (0, .ref mo), (1, .int (nI k)), (2, .int x)] := hl
            exact ih8  (n + 1) (by omega) (by omega) _ _ hP hD hS ls (lv_sub hl [0, 1, 2, 3, 4] rfl)
          · skip
            refine lv_iconst (v := 1) hx hb dX8_hasPath_39 (by decide) ?_
            refine lv_goto (tgt := 44) hx hb dX8_hasPath_40 (by decide) ?_
            refine xtop (y := b1 (∃ i, i < (n + 1) ∧ am 23 (6 * k + i) = x)) ((b1_t ⟨n, by omega, c3⟩).symm) ?_
            refine lv_istore_n (lv' := [(3, .int (b1 (∃ i, i < (n + 1) ∧ am 23 (6 * k + i) = x))), (4, .int (nI (6 * k + n))), (0, .ref mo), (1, .int (nI k)), (2, .int x)]) hx hb dX8_hasPath_44 rfl hl (by decide) rfl (fun ls hl => ?_)
            refine lv_iinc (v := nI (6 * k + n + 1)) (lv' := [(4, .int (nI (6 * k + n + 1))), (3, .int (b1 (∃ i, i < (n + 1) ∧ am 23 (6 * k + i) = x))), (0, .ref mo), (1, .int (nI k)), (2, .int x)]) hx hb dX8_hasPath_45 hl (k := 1) rfl ((nI_add (6 * k + n) 1).trans (congrArg nI (by omega))) (by decide) rfl (fun ls hl => ?_)
            refine lv_goto (tgt := 8) hx hb dX8_hasPath_48 (by decide) ?_
            rw [show (6 * k + n + 1 : Nat) = 6 * k + (n + 1) by omega] at hl
            have hl : lv_has ls 5 [(4, .int (nI (6 * k + (n + 1)))), (3, .int (b1 (∃ i, i < (n + 1) ∧ am 23 (6 * k + i) = x))), (0, .ref mo), (1, .int (nI k)), (2, .int x)] := hl
            exact ih8  (n + 1) (by omega) (by omega) _ _ hP hD hS ls (lv_sub hl [0, 1, 2, 3, 4] rfl)
  exact loop8 (pq k 13 + 1) 0 (by omega) (by omega) _ _ hP hD hS ls (lv_sub hl [0, 1, 2, 3, 4] rfl)

abbrev pX8_enter (E : xE) (mo : Nat) (ad : Nat → Nat) (th : Int32) (kn : Nat) (rn : Nat) (mn : Nat) (dp : Nat) (a37 : Nat → Int32) (a39 : Nat → Int32) (a40 : Nat → Int32) (rl : Nat) (w : va_W) : Prop := ∃ (g37 : Nat → Int32) (g39 : Nat → Int32) (g40 : Nat → Int32), w = [(mo, .inr (9, mOb ad th (nI kn) (nI rn) (nI mn) (nI (dp + 1)))), (ad 37, aZ E 10 g37), (ad 39, aI E 12 g39), (ad 40, aI E 12 g40)] ∧ (g37 = upd a37 rl (vp_nar .boolean 1) ∧ g39 = upd a39 dp (nI rl) ∧ g40 = upd a40 dp 0)
set_option maxHeartbeats 4000000 in
set_option maxRecDepth 100000 in
theorem kX8_enter (l : Launch) (E : xE) (mo : Nat) (ad : Nat → Nat) (th : Int32) (kn : Nat) (rn : Nat) (mn : Nat) (dp : Nat) (a37 : Nat → Int32) (a39 : Nat → Int32) (a40 : Nat → Int32) (rl : Nat) (hrl : rl < 10) (hdp : dp < 12) : KT l yX8_enter wsX8_enter 0 0 0 0 E [(mo, .inr (9, mOb ad th (nI kn) (nI rn) (nI mn) (nI dp))), (ad 37, aZ E 10 a37), (ad 39, aI E 12 a39), (ad 40, aI E 12 a40)] [] [.ref mo, .int (nI rl)] (QV E (pX8_enter E mo ad th kn rn mn dp a37 a39 a40 rl)) := by
  refine KT.start (cc := cX8_enter) (maxL := 2) (ret := none) (by decide) rfl (Nat.le_of_ble_eq_true rfl) ?_
  intro p e s m below meth c A H hx hb hr hlocks hml hts hown hin hP hR0 hD hap hev hz hA hS ls hl
  have hl : lv_has ls 2 [(0, .ref mo), (1, .int (nI rl))] := hl
  have hiX8 : ∀ w ∈ wsX80, w ∈ wsX8_enter := fun _ h => List.mem_cons_of_mem _ (List.mem_append_right _ h)
  have hf183 := hts (.fieldLink RX8 183 "SignQuorumModel" "searched" "[Z") (by decide +kernel)
  have hf186 := hts (.fieldLink RX8 186 "SignQuorumModel" "role" "[I") (by decide +kernel)
  have hf189 := hts (.fieldLink RX8 189 "SignQuorumModel" "place" "[I") (by decide +kernel)
  have hf291 := hts (.fieldLink RX8 291 "SignQuorumModel" "depth" "I") (by decide +kernel)
  refine lv_aload_n hx hb dX8_enter_0 rfl (lv_at hl 0 rfl) ?_
  refine xgt TX8_37 (v := .ref (ad 37)) hx hb hts hiX8 hown hev.1 hP 0 rfl (by decide) hf183 rfl dX8_enter_1 ?_
  refine lv_iload_n hx hb dX8_enter_4 rfl (lv_at hl 1 rfl) ?_
  refine lv_iconst (v := 1) hx hb dX8_enter_5 (by decide) ?_
  refine xzast (k := rl) hx hb hev.1 hP hD hS 1 3 rfl rfl (by omega) (by decide) dX8_enter_6 (fun H locs hP hD hS => ?_)
  obtain ⟨f1, ef1⟩ : ∃ y9_ : Nat → Int32, y9_ = upd a37 rl (vp_nar .boolean 1) := ⟨_, rfl⟩
  rw [← ef1] at hP hD
  have hP : va_P E.1 vwCl [(mo, .inr (9, mOb ad th (nI kn) (nI rn) (nI mn) (nI dp))), (ad 37, aZ E 10 f1), (ad 39, aI E 12 a39), (ad 40, aI E 12 a40)] H := hP
  have hD : va_D A [(mo, .inr (9, mOb ad th (nI kn) (nI rn) (nI mn) (nI dp))), (ad 37, aZ E 10 f1), (ad 39, aI E 12 a39), (ad 40, aI E 12 a40)] := hD
  refine lv_aload_n hx hb dX8_enter_7 rfl (lv_at hl 0 rfl) ?_
  refine xgt TX8_39 (v := .ref (ad 39)) hx hb hts hiX8 hown hev.1 hP 0 rfl (by decide) hf186 rfl dX8_enter_8 ?_
  refine lv_aload_n hx hb dX8_enter_11 rfl (lv_at hl 0 rfl) ?_
  refine xgt TX8_38 (v := .int (nI dp)) hx hb hts hiX8 hown hev.1 hP 0 rfl (by decide) hf291 rfl dX8_enter_12 ?_
  refine lv_iload_n hx hb dX8_enter_15 rfl (lv_at hl 1 rfl) ?_
  refine xiast (k := dp) hx hb hev.1 hP hD hS 2 1 rfl rfl (by omega) (by decide) dX8_enter_16 (fun H locs hP hD hS => ?_)
  obtain ⟨f2, ef2⟩ : ∃ y9_ : Nat → Int32, y9_ = upd a39 dp (nI rl) := ⟨_, rfl⟩
  rw [← ef2] at hP hD
  have hP : va_P E.1 vwCl [(mo, .inr (9, mOb ad th (nI kn) (nI rn) (nI mn) (nI dp))), (ad 37, aZ E 10 f1), (ad 39, aI E 12 f2), (ad 40, aI E 12 a40)] H := hP
  have hD : va_D A [(mo, .inr (9, mOb ad th (nI kn) (nI rn) (nI mn) (nI dp))), (ad 37, aZ E 10 f1), (ad 39, aI E 12 f2), (ad 40, aI E 12 a40)] := hD
  refine lv_aload_n hx hb dX8_enter_17 rfl (lv_at hl 0 rfl) ?_
  refine xgt TX8_40 (v := .ref (ad 40)) hx hb hts hiX8 hown hev.1 hP 0 rfl (by decide) hf189 rfl dX8_enter_18 ?_
  refine lv_aload_n hx hb dX8_enter_21 rfl (lv_at hl 0 rfl) ?_
  refine xgt TX8_38 (v := .int (nI dp)) hx hb hts hiX8 hown hev.1 hP 0 rfl (by decide) hf291 rfl dX8_enter_22 ?_
  refine lv_iconst (v := 0) hx hb dX8_enter_25 (by decide) ?_
  refine xiast (k := dp) hx hb hev.1 hP hD hS 3 1 rfl rfl (by omega) (by decide) dX8_enter_26 (fun H locs hP hD hS => ?_)
  obtain ⟨f3, ef3⟩ : ∃ y9_ : Nat → Int32, y9_ = upd a40 dp 0 := ⟨_, rfl⟩
  rw [← ef3] at hP hD
  have hP : va_P E.1 vwCl [(mo, .inr (9, mOb ad th (nI kn) (nI rn) (nI mn) (nI dp))), (ad 37, aZ E 10 f1), (ad 39, aI E 12 f2), (ad 40, aI E 12 f3)] H := hP
  have hD : va_D A [(mo, .inr (9, mOb ad th (nI kn) (nI rn) (nI mn) (nI dp))), (ad 37, aZ E 10 f1), (ad 39, aI E 12 f2), (ad 40, aI E 12 f3)] := hD
  refine lv_aload_n hx hb dX8_enter_27 rfl (lv_at hl 0 rfl) ?_
  refine lv_dup hx hb dX8_enter_28 rfl ?_
  refine xgt TX8_38 (v := .int (nI dp)) hx hb hts hiX8 hown hev.1 hP 0 rfl (by decide) hf291 rfl dX8_enter_29 ?_
  refine lv_iconst (v := 1) hx hb dX8_enter_32 (by decide) ?_
  refine lv_iadd hx hb dX8_enter_33 ?_
  refine xtop (y := nI (dp + 1)) ((nI_add dp 1).trans (congrArg nI (by omega))) ?_
  refine xpt TX8_38 (v := (nI (dp + 1))) hx hb hts hiX8 hown hev.1 hP hD hS 0 rfl (by decide) hf291 (Nat.le_of_ble_eq_true rfl) dX8_enter_34 (fun H locs hP hD hS => ?_)
  have hP : va_P E.1 vwCl [(mo, .inr (9, mOb ad th (nI kn) (nI rn) (nI mn) (nI (dp + 1)))), (ad 37, aZ E 10 f1), (ad 39, aI E 12 f2), (ad 40, aI E 12 f3)] H := hP
  have hD : va_D A [(mo, .inr (9, mOb ad th (nI kn) (nI rn) (nI mn) (nI (dp + 1)))), (ad 37, aZ E 10 f1), (ad 39, aI E 12 f2), (ad 40, aI E 12 f3)] := hD
  refine xrv hx hb hr hlocks hP hD hS ⟨f1, f2, f3, rfl, ?_⟩ dX8_enter_37
  exact ⟨by assumption, by assumption, by assumption⟩
