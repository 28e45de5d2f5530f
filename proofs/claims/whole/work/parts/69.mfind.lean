theorem fnd_nI {a : Nat} (h : a < 2 ^ 31) : fnd (nI a) = nI a := if_neg (fun e => absurd (show nI a < 0 by rw [e]; decide) (nI_pos h))

abbrev pX8_find (E : xE) (mo : Nat) (ad : Nat → Nat) (th : Int32) (kn : Nat) (rn : Nat) (mn : Nat) (dp : Nat) (am : Nat → Nat → Int32) (al : Nat → Nat → Int64) (pq : Nat → Nat → Nat) (ci : Nat → Option Nat) (a37 : Nat → Int32) (a39 : Nat → Int32) (a40 : Nat → Int32) (u : Int32) (r : Int32) (w : va_W) : Prop := ∃ (d2 : Nat) (g37 : Nat → Int32) (g39 : Nat → Int32) (g40 : Nat → Int32), w = [(mo, .inr (9, mOb ad 0 (nI kn) (nI rn) (nI mn) (nI d2))), (ad 37, aZ E 10 g37), (ad 39, aI E 12 g39), (ad 40, aI E 12 g40)] ∧ ((cnt u 14 = 0 ∧ r = -1) ∨ (¬ cnt u 14 = 0 ∧ r = fnd (srF ci (prM am pq) u 10 3 0).1))
set_option maxHeartbeats 8000000 in
set_option maxRecDepth 100000 in
theorem kX8_find (l : Launch) (E : xE) (mo : Nat) (ad : Nat → Nat) (th : Int32) (kn : Nat) (rn : Nat) (mn : Nat) (dp : Nat) (am : Nat → Nat → Int32) (al : Nat → Nat → Int64) (pq : Nat → Nat → Nat) (ci : Nat → Option Nat) (a37 : Nat → Int32) (a39 : Nat → Int32) (a40 : Nat → Int32) (u : Int32) (hmk : mOk rn am pq) (hnw : ∀ j, j < 10 → am 27 j = nw ci j) (hci : ∀ j i, ci j = some i → i < rn) (hrn : rn ≤ 24) (hto : ∀ k, k < rn → ∀ i, i < pq k 16 → isN (am 20 (6 * k + i)) 10) : KT l yX8_find wsX8_find 2 49 0 0 E [(mo, .inr (9, mOb ad th (nI kn) (nI rn) (nI mn) (nI dp))), (ad 37, aZ E 10 a37), (ad 39, aI E 12 a39), (ad 40, aI E 12 a40)] [(ad 27, aI E 10 (am 27)), (ad 18, aI E 24 (am 18)), (ad 19, aI E 144 (am 19)), (ad 20, aI E 144 (am 20)), (ad 21, aZ E 144 (am 21)), (ad 22, aI E 24 (am 22)), (ad 23, aI E 144 (am 23))] [.ref mo, .int u] (QI E (pX8_find E mo ad th kn rn mn dp am al pq ci a37 a39 a40 u)) := by
  refine KT.start (cc := cX8_find) (maxL := 5) (ret := (some .int)) (by decide) rfl (Nat.le_of_ble_eq_true rfl) ?_
  intro p e s m below meth c A H hx hb hr hlocks hml hts hown hin hP hR0 hD hap hev hz hA hS ls hl
  have hl : lv_has ls 5 [(0, .ref mo), (1, .int u)] := hl
  have hiX8 : ∀ w ∈ wsX80, w ∈ wsX8_find := fun _ h => List.mem_cons_of_mem _ (List.mem_append_right _ h)
  have hf183 := hts (.fieldLink RX8 183 "SignQuorumModel" "searched" "[Z") (by decide +kernel)
  have hf186 := hts (.fieldLink RX8 186 "SignQuorumModel" "role" "[I") (by decide +kernel)
  have hf189 := hts (.fieldLink RX8 189 "SignQuorumModel" "place" "[I") (by decide +kernel)
  have hf192 := hts (.fieldLink RX8 192 "SignQuorumModel" "thrown" "I") (by decide +kernel)
  have hf291 := hts (.fieldLink RX8 291 "SignQuorumModel" "depth" "I") (by decide +kernel)
  have hf57 := hts (.fieldLink RX8 57 "SignQuorumModel" "delegations" "[I") (by decide +kernel)
  have hf60 := hts (.fieldLink RX8 60 "SignQuorumModel" "pattern" "[I") (by decide +kernel)
  have hf63 := hts (.fieldLink RX8 63 "SignQuorumModel" "to" "[I") (by decide +kernel)
  have hf66 := hts (.fieldLink RX8 66 "SignQuorumModel" "last" "[Z") (by decide +kernel)
  have hf84 := hts (.fieldLink RX8 84 "SignQuorumModel" "now" "[I") (by decide +kernel)
  have hcu := cnt_le u 14
  refine lv_aload_n hx hb dX8_find_0 rfl (lv_at hl 0 rfl) ?_
  refine lv_iconst (v := 0) hx hb dX8_find_1 (by decide) ?_
  refine xpt TX8_0 (v := 0) hx hb hts hiX8 hown hev.1 hP hD hS 0 rfl (by decide) hf192 (Nat.le_of_ble_eq_true rfl) dX8_find_2 (fun H locs hP hD hS => ?_)
  have hP : va_P E.1 vwCl [(mo, .inr (9, mOb ad 0 (nI kn) (nI rn) (nI mn) (nI dp))), (ad 37, aZ E 10 a37), (ad 39, aI E 12 a39), (ad 40, aI E 12 a40)] H := hP
  have hD : va_D A [(mo, .inr (9, mOb ad 0 (nI kn) (nI rn) (nI mn) (nI dp))), (ad 37, aZ E 10 a37), (ad 39, aI E 12 a39), (ad 40, aI E 12 a40)] := hD
  refine lv_iload_n hx hb dX8_find_5 rfl (lv_at hl 1 rfl) ?_
  refine lv_bipush (v := 14) hx hb dX8_find_6 (by decide) ?_
  have hP := hP.sub (ws' := [] ++ [(mo, .inr (9, mOb ad 0 (nI kn) (nI rn) (nI mn) (nI dp))), (ad 37, aZ E 10 a37), (ad 39, aI E 12 a39), (ad 40, aI E 12 a40)]) [0, 1, 2, 3] rfl
  have hD := hD.sub (ws' := [] ++ [(mo, .inr (9, mOb ad 0 (nI kn) (nI rn) (nI mn) (nI dp))), (ad 37, aZ E 10 a37), (ad 39, aI E 12 a39), (ad 40, aI E 12 a40)]) [0, 1, 2, 3] (by decide) rfl
  refine xci (va_runS (As := [.int u, .int 14]) (rest := []) ⟨hx, hb, hml, hown, hts⟩ (kX8_parts14 l E u  H.size) (va_cwS 2 hts gX8_find_X8_partsOf rfl rfl rfl (by decide +kernel) ⟨Nat.le_of_ble_eq_true rfl, Nat.le_of_ble_eq_true rfl⟩) ⟨CP.blind, (xpre hev hz hA hP hD hS hR0 hap [] rfl)⟩ rfl rfl hl.1 rfl (lv_room (Nat.le_of_ble_eq_true rfl)) dX8_find_8 ⟨Nat.le_of_ble_eq_true rfl, Nat.le_of_ble_eq_true rfl⟩) hP hD hS hA (fun r1 w2 H locs h3 hP hD hS => ?_)
  obtain ⟨rfl, rfl, h3⟩ := h3
  try dsimp only at h3
  have hP : va_P E.1 vwCl [(mo, .inr (9, mOb ad 0 (nI kn) (nI rn) (nI mn) (nI dp))), (ad 37, aZ E 10 a37), (ad 39, aI E 12 a39), (ad 40, aI E 12 a40)] H := hP
  have hD : va_D A [(mo, .inr (9, mOb ad 0 (nI kn) (nI rn) (nI mn) (nI dp))), (ad 37, aZ E 10 a37), (ad 39, aI E 12 a39), (ad 40, aI E 12 a40)] := hD
  refine lv_if_eq (tgt := 24) hx hb dX8_find_11 (by decide) (fun c4 => ?_) (fun c4 => ?_)
  · skip
    have kc4 : (cnt u 14) = 0 := (nI_eq (a := (cnt u 14)) (b := 0) (by omega) (by omega)).mp c4
    refine lv_iconst (v := (-1)) hx hb dX8_find_24 (by decide) ?_
    refine xri hx hb hr hlocks hP hD hS ⟨dp, a37, a39, a40, rfl, ?_⟩ dX8_find_25
    exact Or.inl ⟨kc4, rfl⟩
  · skip
    have kc4 : ¬ (cnt u 14) = 0 := fun h9 => c4 ((nI_eq (a := (cnt u 14)) (b := 0) (by omega) (by omega)).mpr h9)
    refine lv_aload_n hx hb dX8_find_14 rfl (lv_at hl 0 rfl) ?_
    refine xgt TX8_27 (v := .ref (ad 27)) hx hb hts hiX8 hown hev.1 hP 0 rfl (by decide) hf84 rfl dX8_find_15 ?_
    refine lv_iconst (v := 3) hx hb dX8_find_18 (by decide) ?_
    refine xiald (k := 3) hx hb hev.1 (xro hR0 hap hS) 0 1 rfl rfl (by omega) (by decide) dX8_find_19 ?_
    cases o5 : ci 3 with
    | none =>
      refine xtop (y := (-1)) ((hnw _ (by omega)).trans (nw_n o5)) ?_
      refine lv_iconst (v := (-1)) hx hb dX8_find_20 (by decide) ?_
      refine lv_icmp_ne (tgt := 26) hx hb dX8_find_21 (by decide) (fun c6 => absurd c6 (by decide)) (fun c6 => ?_)
      refine lv_iconst (v := (-1)) hx hb dX8_find_24 (by decide) ?_
      refine xri hx hb hr hlocks hP hD hS ⟨dp, a37, a39, a40, rfl, ?_⟩ dX8_find_25
      exact Or.inr ⟨kc4, by rw [srF_none o5]; rfl⟩
    | some k3 =>
      have hkk3 : k3 < rn := hci _ _ o5
      refine xtop (y := nI k3) ((hnw _ (by omega)).trans (nw_s o5)) ?_
      obtain ⟨h10T, h12T, h15T, h18T, h22T, h24T, hb10T, hb12T, hb15T, hb18T, hb22T, hb24T⟩ := hmk k3 (hkk3)
      refine lv_iconst (v := (-1)) hx hb dX8_find_20 (by decide) ?_
      refine lv_icmp_ne (tgt := 26) hx hb dX8_find_21 (by decide) (fun c7 => ?_) (fun c7 => absurd c7 (nI_ne1 (by omega)))
      have hcn := kc4
      refine lv_iconst (v := 0) hx hb dX8_find_26 (by decide) ?_
      refine lv_istore_n (lv' := [(2, .int 0), (0, .ref mo), (1, .int u)]) hx hb dX8_find_27 rfl hl (by decide) rfl (fun ls hl => ?_)
      have loop28 : ∀ (fz28 : Nat) (i : Nat) (c37 : Nat → Int32), (i ≤ 10) → (∀ k, k < i → c37 k = 0) → (10 - i < fz28) → ∀ (H : Heap) (locs : List Loc), va_P E.1 vwCl [(mo, .inr (9, mOb ad 0 (nI kn) (nI rn) (nI mn) (nI dp))), (ad 37, aZ E 10 c37), (ad 39, aI E 12 a39), (ad 40, aI E 12 a40)] H → va_D A [(mo, .inr (9, mOb ad 0 (nI kn) (nI rn) (nI mn) (nI dp))), (ad 37, aZ E 10 c37), (ad 39, aI E 12 a39), (ad 40, aI E 12 a40)] → va_S A s.heap H locs → ∀ ls : Array Slot, lv_has ls 5 [(2, .int (nI i)), (0, .ref mo), (1, .int u)] → W p l e ({ frames := 2, cells := 0, slots := 0, locals := 49 } : Room) s m ([.ref mo, .int u] : List Value).toArray below meth c H locs 0 0 (MQ below (QI E (pX8_find E mo ad th kn rn mn dp am al pq ci a37 a39 a40 u) A) ([.ref mo, .int u] : List Value).toArray s 0 0 A) (F0 m 28 ls []) := by
        intro fz28
        induction fz28 with
        | zero =>
          intro i c37 hi hz9 hfuel
          exact absurd hfuel (by omega)
        | succ fz28 ih28 =>
          intro i c37 hi hz9 hfuel H locs hP hD hS ls hl
          refine lv_iload_n hx hb dX8_find_28 rfl (lv_at hl 0 rfl) ?_
          refine lv_bipush (v := 10) hx hb dX8_find_29 (by decide) ?_
          refine lv_icmp_ge (tgt := 47) hx hb dX8_find_31 (by decide) (fun c8 => ?_) (fun c8 => ?_)
          · skip
            have kc8 : 10 ≤ i := (nI_leI (a := 10) (b := i) (by omega) (by omega)).mp c8
            have hz3 : ∀ k, k < 10 → c37 k = 0 := fun k hk => hz9 k (by omega)
            refine lv_aload_n hx hb dX8_find_47 rfl (lv_at hl 1 rfl) ?_
            refine lv_iconst (v := 0) hx hb dX8_find_48 (by decide) ?_
            refine xpt TX8_38 (v := 0) hx hb hts hiX8 hown hev.1 hP hD hS 0 rfl (by decide) hf291 (Nat.le_of_ble_eq_true rfl) dX8_find_49 (fun H locs hP hD hS => ?_)
            have hP : va_P E.1 vwCl [(mo, .inr (9, mOb ad 0 (nI kn) (nI rn) (nI mn) 0)), (ad 37, aZ E 10 c37), (ad 39, aI E 12 a39), (ad 40, aI E 12 a40)] H := hP
            have hD : va_D A [(mo, .inr (9, mOb ad 0 (nI kn) (nI rn) (nI mn) 0)), (ad 37, aZ E 10 c37), (ad 39, aI E 12 a39), (ad 40, aI E 12 a40)] := hD
            refine lv_aload_n hx hb dX8_find_52 rfl (lv_at hl 1 rfl) ?_
            refine lv_iconst (v := 3) hx hb dX8_find_53 (by decide) ?_
            have hP := hP.sub (ws' := [(mo, .inr (9, mOb ad 0 (nI kn) (nI rn) (nI mn) 0)), (ad 37, aZ E 10 c37), (ad 39, aI E 12 a39), (ad 40, aI E 12 a40)] ++ []) [0, 1, 2, 3] rfl
            have hD := hD.sub (ws' := [(mo, .inr (9, mOb ad 0 (nI kn) (nI rn) (nI mn) 0)), (ad 37, aZ E 10 c37), (ad 39, aI E 12 a39), (ad 40, aI E 12 a40)] ++ []) [0, 1, 2, 3] (by decide) rfl
            refine xcv (va_runV (As := [.int 3]) (rest := []) ⟨hx, hb, hml, hown, hts⟩ (kX8_enter l E mo ad 0 kn rn mn 0 c37 a39 a40 3 (by first | assumption | omega) (by first | assumption | omega) H.size) (cwV 1 hts gX8_find_X8_enter rfl rfl rfl (by decide +kernel) ⟨Nat.le_of_ble_eq_true rfl, Nat.le_of_ble_eq_true rfl⟩) ⟨CP.blind, (va_recv hev.1 hP.left (ci := 9) (q0 := 0) rfl rfl), (xpre hev hz hA hP hD hS hR0 hap [] rfl)⟩ rfl rfl hl.1 rfl (lv_room (Nat.le_of_ble_eq_true rfl)) dX8_find_54 ⟨Nat.le_of_ble_eq_true rfl, Nat.le_of_ble_eq_true rfl⟩) hP hD hS hA (fun w10 H locs h11 hP hD hS => ?_)
            obtain ⟨g3712, g3913, g4014, rfl, h11⟩ := h11
            try dsimp only at h11
            try rw [show (0 + 1 : Nat) = 1 by omega] at hP hD
            have hP : va_P E.1 vwCl [(mo, .inr (9, mOb ad 0 (nI kn) (nI rn) (nI mn) (nI 1))), (ad 37, aZ E 10 g3712), (ad 39, aI E 12 g3913), (ad 40, aI E 12 g4014)] H := hP
            have hD : va_D A [(mo, .inr (9, mOb ad 0 (nI kn) (nI rn) (nI mn) (nI 1))), (ad 37, aZ E 10 g3712), (ad 39, aI E 12 g3913), (ad 40, aI E 12 g4014)] := hD
            have loop57 : ∀ (fz57 : Nat) (D : Nat) (fr : Nat → Nat) (fp : Nat → Nat) (s37 : Nat → Int32) (s39 : Nat → Int32) (s40 : Nat → Int32) (mm : Int32), (D ≤ cs s37 10) → (∀ j, j < D → s39 j = nI (fr j) ∧ s40 j = nI (fp j) ∧ fr j < 10 ∧ ∃ k, ci (fr j) = some k ∧ fp j ≤ pq k 16) → (bmk mm s37) → (fnd (rem ci (prM am pq) u fr fp D mm) = fnd (srF ci (prM am pq) u 10 3 0).1) → (stM ci pq fr fp D + 8 * (10 - cs s37 10) < fz57) → ∀ (H : Heap) (locs : List Loc), va_P E.1 vwCl [(mo, .inr (9, mOb ad 0 (nI kn) (nI rn) (nI mn) (nI D))), (ad 37, aZ E 10 s37), (ad 39, aI E 12 s39), (ad 40, aI E 12 s40)] H → va_D A [(mo, .inr (9, mOb ad 0 (nI kn) (nI rn) (nI mn) (nI D))), (ad 37, aZ E 10 s37), (ad 39, aI E 12 s39), (ad 40, aI E 12 s40)] → va_S A s.heap H locs → ∀ ls : Array Slot, lv_has ls 5 [(0, .ref mo), (1, .int u)] → W p l e ({ frames := 2, cells := 0, slots := 0, locals := 49 } : Room) s m ([.ref mo, .int u] : List Value).toArray below meth c H locs 0 0 (MQ below (QI E (pX8_find E mo ad th kn rn mn dp am al pq ci a37 a39 a40 u) A) ([.ref mo, .int u] : List Value).toArray s 0 0 A) (F0 m 57 ls []) := by
              intro fz57
              induction fz57 with
              | zero =>
                intro D fr fp s37 s39 s40 mm hdc hst hbm hres hfuel
                exact absurd hfuel (by omega)
              | succ fz57 ih57 =>
                intro D fr fp s37 s39 s40 mm hdc hst hbm hres hfuel H locs hP hD hS ls hl
                have hcs := cs_le s37 10
                refine lv_aload_n hx hb dX8_find_57 rfl (lv_at hl 0 rfl) ?_
                refine xgt TX8_38 (v := .int (nI D)) hx hb hts hiX8 hown hev.1 hP 0 rfl (by decide) hf291 rfl dX8_find_58 ?_
                refine lv_if_le (tgt := 275) hx hb dX8_find_61 (by decide) (fun c15 => ?_) (fun c15 => ?_)
                · skip
                  have kc15 : D ≤ 0 := (nI_leI (a := D) (b := 0) (by omega) (by omega)).mp c15
                  refine lv_iconst (v := (-1)) hx hb dX8_find_275 (by decide) ?_
                  refine xri hx hb hr hlocks hP hD hS ⟨D, s37, s39, s40, rfl, ?_⟩ dX8_find_276
                  have e9 : D = 0 := by omega
                  subst e9
                  exact Or.inr ⟨hcn, (show (-1 : Int32) = fnd (-1) by decide).trans hres⟩
                · skip
                  have kc15 : ¬ D ≤ 0 := fun h9 => c15 ((nI_leI (a := D) (b := 0) (by omega) (by omega)).mpr h9)
                  obtain ⟨J, rfl⟩ : ∃ J, D = J + 1 := ⟨D - 1, by omega⟩
                  obtain ⟨h39, h40, hr10, kk, hkk, hple⟩ := hst J (by omega)
                  have hkr : kk < rn := hci _ _ hkk
                  obtain ⟨h10, h12, h15, h18, h22, h24, hb10, hb12, hb15, hb18, hb22, hb24⟩ := hmk kk (hkr)
                  refine lv_aload_n hx hb dX8_find_64 rfl (lv_at hl 0 rfl) ?_
                  refine xgt TX8_38 (v := .int (nI (J + 1))) hx hb hts hiX8 hown hev.1 hP 0 rfl (by decide) hf291 rfl dX8_find_65 ?_
                  refine lv_iconst (v := 1) hx hb dX8_find_68 (by decide) ?_
                  refine lv_isub hx hb dX8_find_69 ?_
                  refine xtop (y := nI ((J + 1) - 1)) (pk_sub (a := (J + 1)) (b := 1) (by omega)) ?_
                  refine xtop (y := nI J) (congrArg nI (by omega)) ?_
                  refine lv_istore_n (lv' := [(2, .int (nI J)), (0, .ref mo), (1, .int u)]) hx hb dX8_find_70 rfl hl (by decide) rfl (fun ls hl => ?_)
                  refine lv_aload_n hx hb dX8_find_71 rfl (lv_at hl 1 rfl) ?_
                  refine xgt TX8_27 (v := .ref (ad 27)) hx hb hts hiX8 hown hev.1 hP 0 rfl (by decide) hf84 rfl dX8_find_72 ?_
                  refine lv_aload_n hx hb dX8_find_75 rfl (lv_at hl 1 rfl) ?_
                  refine xgt TX8_39 (v := .ref (ad 39)) hx hb hts hiX8 hown hev.1 hP 0 rfl (by decide) hf186 rfl dX8_find_76 ?_
                  refine lv_iload_n hx hb dX8_find_79 rfl (lv_at hl 0 rfl) ?_
                  refine xiald (k := (J)) hx hb hev.1 hP 2 1 rfl rfl (by omega) (by decide) dX8_find_80 ?_
                  refine xtop (y := nI (fr J)) (h39) ?_
                  refine xiald (k := (fr J)) hx hb hev.1 (xro hR0 hap hS) 0 1 rfl rfl (by omega) (by decide) dX8_find_81 ?_
                  refine xtop (y := nI kk) ((hnw _ hr10).trans (nw_s hkk)) ?_
                  refine lv_istore_n (lv' := [(3, .int (nI kk)), (2, .int (nI J)), (0, .ref mo), (1, .int u)]) hx hb dX8_find_82 rfl hl (by decide) rfl (fun ls hl => ?_)
                  refine lv_aload_n hx hb dX8_find_83 rfl (lv_at hl 2 rfl) ?_
                  refine xgt TX8_40 (v := .ref (ad 40)) hx hb hts hiX8 hown hev.1 hP 0 rfl (by decide) hf189 rfl dX8_find_84 ?_
                  refine lv_iload_n hx hb dX8_find_87 rfl (lv_at hl 1 rfl) ?_
                  refine xiald (k := (J)) hx hb hev.1 hP 3 1 rfl rfl (by omega) (by decide) dX8_find_88 ?_
                  refine xtop (y := nI (fp J)) (h40) ?_
                  refine lv_if_ne (tgt := 108) hx hb dX8_find_89 (by decide) (fun c16 => ?_) (fun c16 => ?_)
                  · skip
                    have kc16 : ¬ (fp J) = 0 := fun h9 => c16 ((nI_eq (a := (fp J)) (b := 0) (by omega) (by omega)).mpr h9)
                    refine lv_aload_n hx hb dX8_find_108 rfl (lv_at hl 2 rfl) ?_
                    refine xgt TX8_40 (v := .ref (ad 40)) hx hb hts hiX8 hown hev.1 hP 0 rfl (by decide) hf189 rfl dX8_find_109 ?_
                    refine lv_iload_n hx hb dX8_find_112 rfl (lv_at hl 1 rfl) ?_
                    refine xiald (k := (J)) hx hb hev.1 hP 3 1 rfl rfl (by omega) (by decide) dX8_find_113 ?_
                    refine xtop (y := nI (fp J)) (h40) ?_
                    refine lv_if_le (tgt := 165) hx hb dX8_find_114 (by decide) (fun c17 => absurd c17 (fun h9 => absurd ((nI_leI (a := (fp J)) (b := 0) (by omega) (by omega)).mp h9) (by omega))) (fun c17 => ?_)
                    refine lv_aload_n hx hb dX8_find_117 rfl (lv_at hl 2 rfl) ?_
                    refine xgt TX8_21 (v := .ref (ad 21)) hx hb hts hiX8 hown hev.1 hP 0 rfl (by decide) hf66 rfl dX8_find_118 ?_
                    refine lv_bipush (v := 6) hx hb dX8_find_121 (by decide) ?_
                    refine lv_iload_n hx hb dX8_find_123 rfl (lv_at hl 0 rfl) ?_
                    refine lv_imul hx hb dX8_find_124 ?_
                    refine xtop (y := nI (6 * kk)) (pk_mul _ _) ?_
                    refine lv_aload_n hx hb dX8_find_125 rfl (lv_at hl 2 rfl) ?_
                    refine xgt TX8_40 (v := .ref (ad 40)) hx hb hts hiX8 hown hev.1 hP 0 rfl (by decide) hf189 rfl dX8_find_126 ?_
                    refine lv_iload_n hx hb dX8_find_129 rfl (lv_at hl 1 rfl) ?_
                    refine xiald (k := (J)) hx hb hev.1 hP 3 1 rfl rfl (by omega) (by decide) dX8_find_130 ?_
                    refine xtop (y := nI (fp J)) (h40) ?_
                    refine lv_iadd hx hb dX8_find_131 ?_
                    refine xtop (y := nI (6 * kk + (fp J))) ((nI_add (6 * kk) (fp J)).trans (congrArg nI (by omega))) ?_
                    refine lv_iconst (v := 1) hx hb dX8_find_132 (by decide) ?_
                    refine lv_isub hx hb dX8_find_133 ?_
                    refine xtop (y := nI ((6 * kk + (fp J)) - 1)) (pk_sub (a := (6 * kk + (fp J))) (b := 1) (by omega)) ?_
                    refine xtop (y := nI (6 * kk + (fp J - 1))) (congrArg nI (by omega)) ?_
                    refine xzald (k := (6 * kk + (fp J - 1))) hx hb hev.1 (xro hR0 hap hS) 4 3 rfl rfl (by omega) (by decide) dX8_find_134 ?_
                    refine lv_if_eq (tgt := 165) hx hb dX8_find_135 (by decide) (fun c18 => ?_) (fun c18 => ?_)
                    · skip
                      have hgo : goes (prM am pq) u kk (fp J) := ⟨fun z => absurd z kc16, fun _ z => z.1 c18⟩
                      refine lv_aload_n hx hb dX8_find_165 rfl (lv_at hl 2 rfl) ?_
                      refine xgt TX8_40 (v := .ref (ad 40)) hx hb hts hiX8 hown hev.1 hP 0 rfl (by decide) hf189 rfl dX8_find_166 ?_
                      refine lv_iload_n hx hb dX8_find_169 rfl (lv_at hl 1 rfl) ?_
                      refine xiald (k := (J)) hx hb hev.1 hP 3 1 rfl rfl (by omega) (by decide) dX8_find_170 ?_
                      refine xtop (y := nI (fp J)) (h40) ?_
                      refine lv_aload_n hx hb dX8_find_171 rfl (lv_at hl 2 rfl) ?_
                      refine xgt TX8_18 (v := .ref (ad 18)) hx hb hts hiX8 hown hev.1 hP 0 rfl (by decide) hf57 rfl dX8_find_172 ?_
                      refine lv_iload_n hx hb dX8_find_175 rfl (lv_at hl 0 rfl) ?_
                      refine xiald (k := (kk)) hx hb hev.1 (xro hR0 hap hS) 1 1 rfl rfl (by omega) (by decide) dX8_find_176 ?_
                      refine xtop (y := nI (pq kk 16)) (h18) ?_
                      refine lv_icmp_ne (tgt := 193) hx hb dX8_find_177 (by decide) (fun c19 => ?_) (fun c19 => ?_)
                      · skip
                        have kc19 : ¬ (fp J) = (pq kk 16) := fun h9 => c19 ((nI_eq (a := (fp J)) (b := (pq kk 16)) (by omega) (by omega)).mpr h9)
                        refine lv_bipush (v := 6) hx hb dX8_find_193 (by decide) ?_
                        refine lv_iload_n hx hb dX8_find_195 rfl (lv_at hl 0 rfl) ?_
                        refine lv_imul hx hb dX8_find_196 ?_
                        refine xtop (y := nI (6 * kk)) (pk_mul _ _) ?_
                        refine lv_aload_n hx hb dX8_find_197 rfl (lv_at hl 2 rfl) ?_
                        refine xgt TX8_40 (v := .ref (ad 40)) hx hb hts hiX8 hown hev.1 hP 0 rfl (by decide) hf189 rfl dX8_find_198 ?_
                        refine lv_iload_n hx hb dX8_find_201 rfl (lv_at hl 1 rfl) ?_
                        refine xiald (k := (J)) hx hb hev.1 hP 3 1 rfl rfl (by omega) (by decide) dX8_find_202 ?_
                        refine xtop (y := nI (fp J)) (h40) ?_
                        refine lv_iadd hx hb dX8_find_203 ?_
                        refine xtop (y := nI (6 * kk + (fp J))) ((nI_add (6 * kk) (fp J)).trans (congrArg nI (by omega))) ?_
                        refine lv_istore (lv' := [(4, .int (nI (6 * kk + (fp J)))), (3, .int (nI kk)), (2, .int (nI J)), (0, .ref mo), (1, .int u)]) hx hb dX8_find_204 hl (by decide) rfl (fun ls hl => ?_)
                        have hlt9 : fp J < pq kk 16 := by omega
                        obtain ⟨tt, htt, ett⟩ := hto kk hkr (fp J) hlt9
                        have hclt : ((prM am pq kk).2.2.2 6 (fp J)).toNatClampNeg = tt := by show (am 20 (6 * kk + fp J)).toNatClampNeg = tt; rw [ett]; exact nI_clamp (by omega)
                        refine lv_aload_n hx hb dX8_find_206 rfl (lv_at hl 3 rfl) ?_
                        refine xgt TX8_40 (v := .ref (ad 40)) hx hb hts hiX8 hown hev.1 hP 0 rfl (by decide) hf189 rfl dX8_find_207 ?_
                        refine lv_iload_n hx hb dX8_find_210 rfl (lv_at hl 2 rfl) ?_
                        refine lv_dup2_11 hx hb dX8_find_211 rfl rfl ?_
                        refine xiald (k := (J)) hx hb hev.1 hP 3 1 rfl rfl (by omega) (by decide) dX8_find_212 ?_
                        refine xtop (y := nI (fp J)) (h40) ?_
                        refine lv_iconst (v := 1) hx hb dX8_find_213 (by decide) ?_
                        refine lv_iadd hx hb dX8_find_214 ?_
                        refine xtop (y := nI (fp J + 1)) ((nI_add (fp J) 1).trans (congrArg nI (by omega))) ?_
                        refine xiast (k := J) hx hb hev.1 hP hD hS 3 1 rfl rfl (by omega) (by decide) dX8_find_215 (fun H locs hP hD hS => ?_)
                        obtain ⟨f20, ef20⟩ : ∃ y9_ : Nat → Int32, y9_ = upd s40 J (nI (fp J + 1)) := ⟨_, rfl⟩
                        rw [← ef20] at hP hD
                        have hP : va_P E.1 vwCl [(mo, .inr (9, mOb ad 0 (nI kn) (nI rn) (nI mn) (nI (J + 1)))), (ad 37, aZ E 10 s37), (ad 39, aI E 12 s39), (ad 40, aI E 12 f20)] H := hP
                        have hD : va_D A [(mo, .inr (9, mOb ad 0 (nI kn) (nI rn) (nI mn) (nI (J + 1)))), (ad 37, aZ E 10 s37), (ad 39, aI E 12 s39), (ad 40, aI E 12 f20)] := hD
                        have hst2 : ∀ j, j < J + 1 → s39 j = nI (fr j) ∧ f20 j = nI (updN fp J (fp J + 1) j) ∧ fr j < 10 ∧ ∃ k, ci (fr j) = some k ∧ updN fp J (fp J + 1) j ≤ pq k 16 := fun j hj => if e9 : j = J then ⟨by rw [e9]; exact h39, by rw [e9, ef20, upd_self, updN_s], by rw [e9]; exact hr10, kk, by rw [e9]; exact hkk, by rw [e9, updN_s]; omega⟩ else (by rw [ef20, upd_ne e9, updN_n _ e9]; exact hst j hj)
                        refine lv_aload_n hx hb dX8_find_216 rfl (lv_at hl 3 rfl) ?_
                        refine xgt TX8_19 (v := .ref (ad 19)) hx hb hts hiX8 hown hev.1 hP 0 rfl (by decide) hf60 rfl dX8_find_217 ?_
                        refine lv_iload hx hb dX8_find_220 (lv_at hl 0 rfl) ?_
                        refine xiald (k := (6 * kk + (fp J))) hx hb hev.1 (xro hR0 hap hS) 2 1 rfl rfl (by omega) (by decide) dX8_find_222 ?_
                        refine lv_iload_n hx hb dX8_find_223 rfl (lv_at hl 4 rfl) ?_
                        have hP := hP.sub (ws' := [] ++ [(mo, .inr (9, mOb ad 0 (nI kn) (nI rn) (nI mn) (nI (J + 1)))), (ad 37, aZ E 10 s37), (ad 39, aI E 12 s39), (ad 40, aI E 12 f20)]) [0, 1, 2, 3] rfl
                        have hD := hD.sub (ws' := [] ++ [(mo, .inr (9, mOb ad 0 (nI kn) (nI rn) (nI mn) (nI (J + 1)))), (ad 37, aZ E 10 s37), (ad 39, aI E 12 s39), (ad 40, aI E 12 f20)]) [0, 1, 2, 3] (by decide) rfl
                        refine xci (va_runS (As := [.int ((am 19) (6 * kk + (fp J))), .int u]) (rest := []) ⟨hx, hb, hml, hown, hts⟩ (kX8_fits l E ((am 19) (6 * kk + (fp J))) u  H.size) (va_cwS 2 hts gX8_find_X8_fits rfl rfl rfl (by decide +kernel) ⟨Nat.le_of_ble_eq_true rfl, Nat.le_of_ble_eq_true rfl⟩) ⟨CP.blind, (xpre hev hz hA hP hD hS hR0 hap [] rfl)⟩ rfl rfl hl.1 rfl (lv_room (Nat.le_of_ble_eq_true rfl)) dX8_find_224 ⟨Nat.le_of_ble_eq_true rfl, Nat.le_of_ble_eq_true rfl⟩) hP hD hS hA (fun r21 w22 H locs h23 hP hD hS => ?_)
                        obtain ⟨rfl, rfl, h23⟩ := h23
                        try dsimp only at h23
                        have hP : va_P E.1 vwCl [(mo, .inr (9, mOb ad 0 (nI kn) (nI rn) (nI mn) (nI (J + 1)))), (ad 37, aZ E 10 s37), (ad 39, aI E 12 s39), (ad 40, aI E 12 f20)] H := hP
                        have hD : va_D A [(mo, .inr (9, mOb ad 0 (nI kn) (nI rn) (nI mn) (nI (J + 1)))), (ad 37, aZ E 10 s37), (ad 39, aI E 12 s39), (ad 40, aI E 12 f20)] := hD
                        refine lv_if_eq (tgt := 272) hx hb dX8_find_227 (by decide) (fun c24 => ?_) (fun c24 => ?_)
                        · skip
                          have kc24 := b1_0.mp c24
                          refine lv_goto (tgt := 57) hx hb dX8_find_272 (by decide) ?_
                          exact ih57  (J + 1) fr (updN fp J (fp J + 1)) s37 s39 f20 mm (hdc) (hst2) (hbm) ((congrArg fnd (rem_skip hkk hgo hlt9 kc24)).symm.trans hres) (by rw [stM_up hkk]; rw [stM_s hkk] at hfuel; omega) _ _ hP hD hS ls (lv_sub hl [3, 4] rfl)
                        · skip
                          have kc24 := b1_n.mp c24
                          refine lv_aload_n hx hb dX8_find_230 rfl (lv_at hl 3 rfl) ?_
                          refine xgt TX8_37 (v := .ref (ad 37)) hx hb hts hiX8 hown hev.1 hP 0 rfl (by decide) hf183 rfl dX8_find_231 ?_
                          refine lv_aload_n hx hb dX8_find_234 rfl (lv_at hl 3 rfl) ?_
                          refine xgt TX8_20 (v := .ref (ad 20)) hx hb hts hiX8 hown hev.1 hP 0 rfl (by decide) hf63 rfl dX8_find_235 ?_
                          refine lv_iload hx hb dX8_find_238 (lv_at hl 0 rfl) ?_
                          refine xiald (k := (6 * kk + (fp J))) hx hb hev.1 (xro hR0 hap hS) 3 1 rfl rfl (by omega) (by decide) dX8_find_240 ?_
                          refine xtop (y := nI tt) (ett) ?_
                          refine xzald (k := (tt)) hx hb hev.1 hP 1 3 rfl rfl (by omega) (by decide) dX8_find_241 ?_
                          refine lv_if_ne (tgt := 272) hx hb dX8_find_242 (by decide) (fun c25 => ?_) (fun c25 => ?_)
                          · skip
                            refine lv_goto (tgt := 57) hx hb dX8_find_272 (by decide) ?_
                            exact ih57  (J + 1) fr (updN fp J (fp J + 1)) s37 s39 f20 mm (hdc) (hst2) (hbm) ((congrArg fnd (rem_none hkk hgo hlt9 kc24 hclt (pk2_t (fun z => c25 ((hbm tt htt).mp z))))).symm.trans hres) (by rw [stM_up hkk]; rw [stM_s hkk] at hfuel; omega) _ _ hP hD hS ls (lv_sub hl [3, 4] rfl)
                          · skip
                            refine lv_aload_n hx hb dX8_find_245 rfl (lv_at hl 3 rfl) ?_
                            refine xgt TX8_27 (v := .ref (ad 27)) hx hb hts hiX8 hown hev.1 hP 0 rfl (by decide) hf84 rfl dX8_find_246 ?_
                            refine lv_aload_n hx hb dX8_find_249 rfl (lv_at hl 3 rfl) ?_
                            refine xgt TX8_20 (v := .ref (ad 20)) hx hb hts hiX8 hown hev.1 hP 0 rfl (by decide) hf63 rfl dX8_find_250 ?_
                            refine lv_iload hx hb dX8_find_253 (lv_at hl 0 rfl) ?_
                            refine xiald (k := (6 * kk + (fp J))) hx hb hev.1 (xro hR0 hap hS) 3 1 rfl rfl (by omega) (by decide) dX8_find_255 ?_
                            refine xtop (y := nI tt) (ett) ?_
                            refine xiald (k := (tt)) hx hb hev.1 (xro hR0 hap hS) 0 1 rfl rfl (by omega) (by decide) dX8_find_256 ?_
                            cases o26 : ci tt with
                            | none =>
                              refine xtop (y := (-1)) ((hnw _ (by omega)).trans (nw_n o26)) ?_
                              refine lv_iconst (v := (-1)) hx hb dX8_find_257 (by decide) ?_
                              refine lv_icmp_eq (tgt := 272) hx hb dX8_find_258 (by decide) (fun c27 => ?_) (fun c27 => absurd (by decide) c27)
                              refine lv_goto (tgt := 57) hx hb dX8_find_272 (by decide) ?_
                              exact ih57  (J + 1) fr (updN fp J (fp J + 1)) s37 s39 f20 mm (hdc) (hst2) (hbm) ((congrArg fnd (rem_none hkk hgo hlt9 kc24 hclt ((pk2_f (fun z => z ((hbm tt htt).mpr c25))).trans (srF_none o26 _)))).symm.trans hres) (by rw [stM_up hkk]; rw [stM_s hkk] at hfuel; omega) _ _ hP hD hS ls (lv_sub hl [3, 4] rfl)
                            | some kt =>
                              have hkkt : kt < rn := hci _ _ o26
                              refine xtop (y := nI kt) ((hnw _ (by omega)).trans (nw_s o26)) ?_
                              obtain ⟨h10N, h12N, h15N, h18N, h22N, h24N, hb10N, hb12N, hb15N, hb18N, hb22N, hb24N⟩ := hmk kt (hkkt)
                              refine lv_iconst (v := (-1)) hx hb dX8_find_257 (by decide) ?_
                              refine lv_icmp_eq (tgt := 272) hx hb dX8_find_258 (by decide) (fun c28 => absurd c28 (nI_ne1 (by omega))) (fun c28 => ?_)
                              have hcl10 := cs_lt htt c25
                              refine lv_aload_n hx hb dX8_find_261 rfl (lv_at hl 3 rfl) ?_
                              refine lv_aload_n hx hb dX8_find_262 rfl (lv_at hl 3 rfl) ?_
                              refine xgt TX8_20 (v := .ref (ad 20)) hx hb hts hiX8 hown hev.1 hP 0 rfl (by decide) hf63 rfl dX8_find_263 ?_
                              refine lv_iload hx hb dX8_find_266 (lv_at hl 0 rfl) ?_
                              refine xiald (k := (6 * kk + (fp J))) hx hb hev.1 (xro hR0 hap hS) 3 1 rfl rfl (by omega) (by decide) dX8_find_268 ?_
                              refine xtop (y := nI tt) (ett) ?_
                              have hP := hP.sub (ws' := [(mo, .inr (9, mOb ad 0 (nI kn) (nI rn) (nI mn) (nI (J + 1)))), (ad 37, aZ E 10 s37), (ad 39, aI E 12 s39), (ad 40, aI E 12 f20)] ++ []) [0, 1, 2, 3] rfl
                              have hD := hD.sub (ws' := [(mo, .inr (9, mOb ad 0 (nI kn) (nI rn) (nI mn) (nI (J + 1)))), (ad 37, aZ E 10 s37), (ad 39, aI E 12 s39), (ad 40, aI E 12 f20)] ++ []) [0, 1, 2, 3] (by decide) rfl
                              refine xcv (va_runV (As := [.int (nI tt)]) (rest := []) ⟨hx, hb, hml, hown, hts⟩ (kX8_enter l E mo ad 0 kn rn mn (J + 1) s37 s39 f20 tt (by first | assumption | omega) (by first | assumption | omega) H.size) (cwV 1 hts gX8_find_X8_enter rfl rfl rfl (by decide +kernel) ⟨Nat.le_of_ble_eq_true rfl, Nat.le_of_ble_eq_true rfl⟩) ⟨CP.blind, (va_recv hev.1 hP.left (ci := 9) (q0 := 0) rfl rfl), (xpre hev hz hA hP hD hS hR0 hap [] rfl)⟩ rfl rfl hl.1 rfl (lv_room (Nat.le_of_ble_eq_true rfl)) dX8_find_269 ⟨Nat.le_of_ble_eq_true rfl, Nat.le_of_ble_eq_true rfl⟩) hP hD hS hA (fun w30 H locs h31 hP hD hS => ?_)
                              obtain ⟨g3732, g3933, g4034, rfl, h31⟩ := h31
                              try dsimp only at h31
                              try rw [show ((J + 1) + 1 : Nat) = J + 2 by omega] at hP hD
                              have hP : va_P E.1 vwCl [(mo, .inr (9, mOb ad 0 (nI kn) (nI rn) (nI mn) (nI (J + 2)))), (ad 37, aZ E 10 g3732), (ad 39, aI E 12 g3933), (ad 40, aI E 12 g4034)] H := hP
                              have hD : va_D A [(mo, .inr (9, mOb ad 0 (nI kn) (nI rn) (nI mn) (nI (J + 2)))), (ad 37, aZ E 10 g3732), (ad 39, aI E 12 g3933), (ad 40, aI E 12 g4034)] := hD
                              refine lv_goto (tgt := 57) hx hb dX8_find_272 (by decide) ?_
                              exact ih57  (J + 2) (updN fr (J + 1) tt) (updN (updN fp J (fp J + 1)) (J + 1) 0) g3732 g3933 g4034 (mm ||| (1 <<< (nI tt &&& 31))) (by rw [h31.1, cs_upd htt c25 (by decide)]; omega) (fun j hj => if e9 : j = J + 1 then ⟨by rw [e9, h31.2.1, upd_self, updN_s], by rw [e9, h31.2.2, upd_self, updN_s, nI_0], by rw [e9, updN_s]; exact htt, kt, by rw [e9, updN_s]; exact o26, by rw [e9, updN_s]; omega⟩ else (by rw [h31.2.1, h31.2.2, upd_ne e9, upd_ne e9, updN_n _ e9, updN_n _ e9]; exact hst2 j (by omega))) (by rw [h31.1]; exact bmk_up hbm htt (by decide)) ((congrArg fnd (rem_in (by omega) hkk hgo hlt9 kc24 hclt ((hbm tt htt).mpr c25) o26)).symm.trans hres) (by rw [stM_in hkk o26, h31.1, cs_upd htt c25 (by decide)]; rw [stM_s hkk] at hfuel; omega) _ _ hP hD hS ls (lv_sub hl [3, 4] rfl)
                      · skip
                        have kc19 : (fp J) = (pq kk 16) := (nI_eq (a := (fp J)) (b := (pq kk 16)) (by omega) (by omega)).mp c19
                        refine lv_aload_n hx hb dX8_find_180 rfl (lv_at hl 2 rfl) ?_
                        refine lv_dup hx hb dX8_find_181 rfl ?_
                        refine xgt TX8_38 (v := .int (nI (J + 1))) hx hb hts hiX8 hown hev.1 hP 0 rfl (by decide) hf291 rfl dX8_find_182 ?_
                        refine lv_iconst (v := 1) hx hb dX8_find_185 (by decide) ?_
                        refine lv_isub hx hb dX8_find_186 ?_
                        refine xtop (y := nI ((J + 1) - 1)) (pk_sub (a := (J + 1)) (b := 1) (by omega)) ?_
                        refine xtop (y := nI J) (congrArg nI (by omega)) ?_
                        refine xpt TX8_38 (v := (nI J)) hx hb hts hiX8 hown hev.1 hP hD hS 0 rfl (by decide) hf291 (Nat.le_of_ble_eq_true rfl) dX8_find_187 (fun H locs hP hD hS => ?_)
                        have hP : va_P E.1 vwCl [(mo, .inr (9, mOb ad 0 (nI kn) (nI rn) (nI mn) (nI J))), (ad 37, aZ E 10 s37), (ad 39, aI E 12 s39), (ad 40, aI E 12 s40)] H := hP
                        have hD : va_D A [(mo, .inr (9, mOb ad 0 (nI kn) (nI rn) (nI mn) (nI J))), (ad 37, aZ E 10 s37), (ad 39, aI E 12 s39), (ad 40, aI E 12 s40)] := hD
                        refine lv_goto (tgt := 57) hx hb dX8_find_190 (by decide) ?_
                        exact ih57  J fr fp s37 s39 s40 mm (by omega) (fun j hj => hst j (by omega)) (hbm) ((congrArg fnd (rem_pop hkk hgo (show ¬ fp J < pq kk 16 by omega))).symm.trans hres) (by rw [stM_s hkk] at hfuel; omega) _ _ hP hD hS ls (lv_sub hl [2, 3] rfl)
                    · skip
                      refine lv_aload_n hx hb dX8_find_138 rfl (lv_at hl 2 rfl) ?_
                      refine xgt TX8_19 (v := .ref (ad 19)) hx hb hts hiX8 hown hev.1 hP 0 rfl (by decide) hf60 rfl dX8_find_139 ?_
                      refine lv_bipush (v := 6) hx hb dX8_find_142 (by decide) ?_
                      refine lv_iload_n hx hb dX8_find_144 rfl (lv_at hl 0 rfl) ?_
                      refine lv_imul hx hb dX8_find_145 ?_
                      refine xtop (y := nI (6 * kk)) (pk_mul _ _) ?_
                      refine lv_aload_n hx hb dX8_find_146 rfl (lv_at hl 2 rfl) ?_
                      refine xgt TX8_40 (v := .ref (ad 40)) hx hb hts hiX8 hown hev.1 hP 0 rfl (by decide) hf189 rfl dX8_find_147 ?_
                      refine lv_iload_n hx hb dX8_find_150 rfl (lv_at hl 1 rfl) ?_
                      refine xiald (k := (J)) hx hb hev.1 hP 3 1 rfl rfl (by omega) (by decide) dX8_find_151 ?_
                      refine xtop (y := nI (fp J)) (h40) ?_
                      refine lv_iadd hx hb dX8_find_152 ?_
                      refine xtop (y := nI (6 * kk + (fp J))) ((nI_add (6 * kk) (fp J)).trans (congrArg nI (by omega))) ?_
                      refine lv_iconst (v := 1) hx hb dX8_find_153 (by decide) ?_
                      refine lv_isub hx hb dX8_find_154 ?_
                      refine xtop (y := nI ((6 * kk + (fp J)) - 1)) (pk_sub (a := (6 * kk + (fp J))) (b := 1) (by omega)) ?_
                      refine xtop (y := nI (6 * kk + (fp J - 1))) (congrArg nI (by omega)) ?_
                      refine xiald (k := (6 * kk + (fp J - 1))) hx hb hev.1 (xro hR0 hap hS) 2 1 rfl rfl (by omega) (by decide) dX8_find_155 ?_
                      refine lv_iload_n hx hb dX8_find_156 rfl (lv_at hl 3 rfl) ?_
                      have hP := hP.sub (ws' := [] ++ [(mo, .inr (9, mOb ad 0 (nI kn) (nI rn) (nI mn) (nI (J + 1)))), (ad 37, aZ E 10 s37), (ad 39, aI E 12 s39), (ad 40, aI E 12 s40)]) [0, 1, 2, 3] rfl
                      have hD := hD.sub (ws' := [] ++ [(mo, .inr (9, mOb ad 0 (nI kn) (nI rn) (nI mn) (nI (J + 1)))), (ad 37, aZ E 10 s37), (ad 39, aI E 12 s39), (ad 40, aI E 12 s40)]) [0, 1, 2, 3] (by decide) rfl
                      refine xci (va_runS (As := [.int ((am 19) (6 * kk + (fp J - 1))), .int u]) (rest := []) ⟨hx, hb, hml, hown, hts⟩ (kX8_fits l E ((am 19) (6 * kk + (fp J - 1))) u  H.size) (va_cwS 2 hts gX8_find_X8_fits rfl rfl rfl (by decide +kernel) ⟨Nat.le_of_ble_eq_true rfl, Nat.le_of_ble_eq_true rfl⟩) ⟨CP.blind, (xpre hev hz hA hP hD hS hR0 hap [] rfl)⟩ rfl rfl hl.1 rfl (lv_room (Nat.le_of_ble_eq_true rfl)) dX8_find_157 ⟨Nat.le_of_ble_eq_true rfl, Nat.le_of_ble_eq_true rfl⟩) hP hD hS hA (fun r35 w36 H locs h37 hP hD hS => ?_)
                      obtain ⟨rfl, rfl, h37⟩ := h37
                      try dsimp only at h37
                      have hP : va_P E.1 vwCl [(mo, .inr (9, mOb ad 0 (nI kn) (nI rn) (nI mn) (nI (J + 1)))), (ad 37, aZ E 10 s37), (ad 39, aI E 12 s39), (ad 40, aI E 12 s40)] H := hP
                      have hD : va_D A [(mo, .inr (9, mOb ad 0 (nI kn) (nI rn) (nI mn) (nI (J + 1)))), (ad 37, aZ E 10 s37), (ad 39, aI E 12 s39), (ad 40, aI E 12 s40)] := hD
                      refine lv_if_eq (tgt := 165) hx hb dX8_find_160 (by decide) (fun c38 => ?_) (fun c38 => ?_)
                      · skip
                        have kc38 := b1_0.mp c38
                        have hgo : goes (prM am pq) u kk (fp J) := ⟨fun z => absurd z kc16, fun _ z => kc38 z.2⟩
                        refine lv_aload_n hx hb dX8_find_165 rfl (lv_at hl 2 rfl) ?_
                        refine xgt TX8_40 (v := .ref (ad 40)) hx hb hts hiX8 hown hev.1 hP 0 rfl (by decide) hf189 rfl dX8_find_166 ?_
                        refine lv_iload_n hx hb dX8_find_169 rfl (lv_at hl 1 rfl) ?_
                        refine xiald (k := (J)) hx hb hev.1 hP 3 1 rfl rfl (by omega) (by decide) dX8_find_170 ?_
                        refine xtop (y := nI (fp J)) (h40) ?_
                        refine lv_aload_n hx hb dX8_find_171 rfl (lv_at hl 2 rfl) ?_
                        refine xgt TX8_18 (v := .ref (ad 18)) hx hb hts hiX8 hown hev.1 hP 0 rfl (by decide) hf57 rfl dX8_find_172 ?_
                        refine lv_iload_n hx hb dX8_find_175 rfl (lv_at hl 0 rfl) ?_
                        refine xiald (k := (kk)) hx hb hev.1 (xro hR0 hap hS) 1 1 rfl rfl (by omega) (by decide) dX8_find_176 ?_
                        refine xtop (y := nI (pq kk 16)) (h18) ?_
                        refine lv_icmp_ne (tgt := 193) hx hb dX8_find_177 (by decide) (fun c39 => ?_) (fun c39 => ?_)
                        · skip
                          have kc39 : ¬ (fp J) = (pq kk 16) := fun h9 => c39 ((nI_eq (a := (fp J)) (b := (pq kk 16)) (by omega) (by omega)).mpr h9)
                          refine lv_bipush (v := 6) hx hb dX8_find_193 (by decide) ?_
                          refine lv_iload_n hx hb dX8_find_195 rfl (lv_at hl 0 rfl) ?_
                          refine lv_imul hx hb dX8_find_196 ?_
                          refine xtop (y := nI (6 * kk)) (pk_mul _ _) ?_
                          refine lv_aload_n hx hb dX8_find_197 rfl (lv_at hl 2 rfl) ?_
                          refine xgt TX8_40 (v := .ref (ad 40)) hx hb hts hiX8 hown hev.1 hP 0 rfl (by decide) hf189 rfl dX8_find_198 ?_
                          refine lv_iload_n hx hb dX8_find_201 rfl (lv_at hl 1 rfl) ?_
                          refine xiald (k := (J)) hx hb hev.1 hP 3 1 rfl rfl (by omega) (by decide) dX8_find_202 ?_
                          refine xtop (y := nI (fp J)) (h40) ?_
                          refine lv_iadd hx hb dX8_find_203 ?_
                          refine xtop (y := nI (6 * kk + (fp J))) ((nI_add (6 * kk) (fp J)).trans (congrArg nI (by omega))) ?_
                          refine lv_istore (lv' := [(4, .int (nI (6 * kk + (fp J)))), (3, .int (nI kk)), (2, .int (nI J)), (0, .ref mo), (1, .int u)]) hx hb dX8_find_204 hl (by decide) rfl (fun ls hl => ?_)
                          have hlt9 : fp J < pq kk 16 := by omega
                          obtain ⟨tt, htt, ett⟩ := hto kk hkr (fp J) hlt9
                          have hclt : ((prM am pq kk).2.2.2 6 (fp J)).toNatClampNeg = tt := by show (am 20 (6 * kk + fp J)).toNatClampNeg = tt; rw [ett]; exact nI_clamp (by omega)
                          refine lv_aload_n hx hb dX8_find_206 rfl (lv_at hl 3 rfl) ?_
                          refine xgt TX8_40 (v := .ref (ad 40)) hx hb hts hiX8 hown hev.1 hP 0 rfl (by decide) hf189 rfl dX8_find_207 ?_
                          refine lv_iload_n hx hb dX8_find_210 rfl (lv_at hl 2 rfl) ?_
                          refine lv_dup2_11 hx hb dX8_find_211 rfl rfl ?_
                          refine xiald (k := (J)) hx hb hev.1 hP 3 1 rfl rfl (by omega) (by decide) dX8_find_212 ?_
                          refine xtop (y := nI (fp J)) (h40) ?_
                          refine lv_iconst (v := 1) hx hb dX8_find_213 (by decide) ?_
                          refine lv_iadd hx hb dX8_find_214 ?_
                          refine xtop (y := nI (fp J + 1)) ((nI_add (fp J) 1).trans (congrArg nI (by omega))) ?_
                          refine xiast (k := J) hx hb hev.1 hP hD hS 3 1 rfl rfl (by omega) (by decide) dX8_find_215 (fun H locs hP hD hS => ?_)
                          obtain ⟨f40, ef40⟩ : ∃ y9_ : Nat → Int32, y9_ = upd s40 J (nI (fp J + 1)) := ⟨_, rfl⟩
                          rw [← ef40] at hP hD
                          have hP : va_P E.1 vwCl [(mo, .inr (9, mOb ad 0 (nI kn) (nI rn) (nI mn) (nI (J + 1)))), (ad 37, aZ E 10 s37), (ad 39, aI E 12 s39), (ad 40, aI E 12 f40)] H := hP
                          have hD : va_D A [(mo, .inr (9, mOb ad 0 (nI kn) (nI rn) (nI mn) (nI (J + 1)))), (ad 37, aZ E 10 s37), (ad 39, aI E 12 s39), (ad 40, aI E 12 f40)] := hD
                          have hst2 : ∀ j, j < J + 1 → s39 j = nI (fr j) ∧ f40 j = nI (updN fp J (fp J + 1) j) ∧ fr j < 10 ∧ ∃ k, ci (fr j) = some k ∧ updN fp J (fp J + 1) j ≤ pq k 16 := fun j hj => if e9 : j = J then ⟨by rw [e9]; exact h39, by rw [e9, ef40, upd_self, updN_s], by rw [e9]; exact hr10, kk, by rw [e9]; exact hkk, by rw [e9, updN_s]; omega⟩ else (by rw [ef40, upd_ne e9, updN_n _ e9]; exact hst j hj)
                          refine lv_aload_n hx hb dX8_find_216 rfl (lv_at hl 3 rfl) ?_
                          refine xgt TX8_19 (v := .ref (ad 19)) hx hb hts hiX8 hown hev.1 hP 0 rfl (by decide) hf60 rfl dX8_find_217 ?_
                          refine lv_iload hx hb dX8_find_220 (lv_at hl 0 rfl) ?_
                          refine xiald (k := (6 * kk + (fp J))) hx hb hev.1 (xro hR0 hap hS) 2 1 rfl rfl (by omega) (by decide) dX8_find_222 ?_
                          refine lv_iload_n hx hb dX8_find_223 rfl (lv_at hl 4 rfl) ?_
                          have hP := hP.sub (ws' := [] ++ [(mo, .inr (9, mOb ad 0 (nI kn) (nI rn) (nI mn) (nI (J + 1)))), (ad 37, aZ E 10 s37), (ad 39, aI E 12 s39), (ad 40, aI E 12 f40)]) [0, 1, 2, 3] rfl
                          have hD := hD.sub (ws' := [] ++ [(mo, .inr (9, mOb ad 0 (nI kn) (nI rn) (nI mn) (nI (J + 1)))), (ad 37, aZ E 10 s37), (ad 39, aI E 12 s39), (ad 40, aI E 12 f40)]) [0, 1, 2, 3] (by decide) rfl
                          refine xci (va_runS (As := [.int ((am 19) (6 * kk + (fp J))), .int u]) (rest := []) ⟨hx, hb, hml, hown, hts⟩ (kX8_fits l E ((am 19) (6 * kk + (fp J))) u  H.size) (va_cwS 2 hts gX8_find_X8_fits rfl rfl rfl (by decide +kernel) ⟨Nat.le_of_ble_eq_true rfl, Nat.le_of_ble_eq_true rfl⟩) ⟨CP.blind, (xpre hev hz hA hP hD hS hR0 hap [] rfl)⟩ rfl rfl hl.1 rfl (lv_room (Nat.le_of_ble_eq_true rfl)) dX8_find_224 ⟨Nat.le_of_ble_eq_true rfl, Nat.le_of_ble_eq_true rfl⟩) hP hD hS hA (fun r41 w42 H locs h43 hP hD hS => ?_)
                          obtain ⟨rfl, rfl, h43⟩ := h43
                          try dsimp only at h43
                          have hP : va_P E.1 vwCl [(mo, .inr (9, mOb ad 0 (nI kn) (nI rn) (nI mn) (nI (J + 1)))), (ad 37, aZ E 10 s37), (ad 39, aI E 12 s39), (ad 40, aI E 12 f40)] H := hP
                          have hD : va_D A [(mo, .inr (9, mOb ad 0 (nI kn) (nI rn) (nI mn) (nI (J + 1)))), (ad 37, aZ E 10 s37), (ad 39, aI E 12 s39), (ad 40, aI E 12 f40)] := hD
                          refine lv_if_eq (tgt := 272) hx hb dX8_find_227 (by decide) (fun c44 => ?_) (fun c44 => ?_)
                          · skip
                            have kc44 := b1_0.mp c44
                            refine lv_goto (tgt := 57) hx hb dX8_find_272 (by decide) ?_
                            exact ih57  (J + 1) fr (updN fp J (fp J + 1)) s37 s39 f40 mm (hdc) (hst2) (hbm) ((congrArg fnd (rem_skip hkk hgo hlt9 kc44)).symm.trans hres) (by rw [stM_up hkk]; rw [stM_s hkk] at hfuel; omega) _ _ hP hD hS ls (lv_sub hl [3, 4] rfl)
                          · skip
                            have kc44 := b1_n.mp c44
                            refine lv_aload_n hx hb dX8_find_230 rfl (lv_at hl 3 rfl) ?_
                            refine xgt TX8_37 (v := .ref (ad 37)) hx hb hts hiX8 hown hev.1 hP 0 rfl (by decide) hf183 rfl dX8_find_231 ?_
                            refine lv_aload_n hx hb dX8_find_234 rfl (lv_at hl 3 rfl) ?_
                            refine xgt TX8_20 (v := .ref (ad 20)) hx hb hts hiX8 hown hev.1 hP 0 rfl (by decide) hf63 rfl dX8_find_235 ?_
                            refine lv_iload hx hb dX8_find_238 (lv_at hl 0 rfl) ?_
                            refine xiald (k := (6 * kk + (fp J))) hx hb hev.1 (xro hR0 hap hS) 3 1 rfl rfl (by omega) (by decide) dX8_find_240 ?_
                            refine xtop (y := nI tt) (ett) ?_
                            refine xzald (k := (tt)) hx hb hev.1 hP 1 3 rfl rfl (by omega) (by decide) dX8_find_241 ?_
                            refine lv_if_ne (tgt := 272) hx hb dX8_find_242 (by decide) (fun c45 => ?_) (fun c45 => ?_)
                            · skip
                              refine lv_goto (tgt := 57) hx hb dX8_find_272 (by decide) ?_
                              exact ih57  (J + 1) fr (updN fp J (fp J + 1)) s37 s39 f40 mm (hdc) (hst2) (hbm) ((congrArg fnd (rem_none hkk hgo hlt9 kc44 hclt (pk2_t (fun z => c45 ((hbm tt htt).mp z))))).symm.trans hres) (by rw [stM_up hkk]; rw [stM_s hkk] at hfuel; omega) _ _ hP hD hS ls (lv_sub hl [3, 4] rfl)
                            · skip
                              refine lv_aload_n hx hb dX8_find_245 rfl (lv_at hl 3 rfl) ?_
                              refine xgt TX8_27 (v := .ref (ad 27)) hx hb hts hiX8 hown hev.1 hP 0 rfl (by decide) hf84 rfl dX8_find_246 ?_
                              refine lv_aload_n hx hb dX8_find_249 rfl (lv_at hl 3 rfl) ?_
                              refine xgt TX8_20 (v := .ref (ad 20)) hx hb hts hiX8 hown hev.1 hP 0 rfl (by decide) hf63 rfl dX8_find_250 ?_
                              refine lv_iload hx hb dX8_find_253 (lv_at hl 0 rfl) ?_
                              refine xiald (k := (6 * kk + (fp J))) hx hb hev.1 (xro hR0 hap hS) 3 1 rfl rfl (by omega) (by decide) dX8_find_255 ?_
                              refine xtop (y := nI tt) (ett) ?_
                              refine xiald (k := (tt)) hx hb hev.1 (xro hR0 hap hS) 0 1 rfl rfl (by omega) (by decide) dX8_find_256 ?_
                              cases o46 : ci tt with
                              | none =>
                                refine xtop (y := (-1)) ((hnw _ (by omega)).trans (nw_n o46)) ?_
                                refine lv_iconst (v := (-1)) hx hb dX8_find_257 (by decide) ?_
                                refine lv_icmp_eq (tgt := 272) hx hb dX8_find_258 (by decide) (fun c47 => ?_) (fun c47 => absurd (by decide) c47)
                                refine lv_goto (tgt := 57) hx hb dX8_find_272 (by decide) ?_
                                exact ih57  (J + 1) fr (updN fp J (fp J + 1)) s37 s39 f40 mm (hdc) (hst2) (hbm) ((congrArg fnd (rem_none hkk hgo hlt9 kc44 hclt ((pk2_f (fun z => z ((hbm tt htt).mpr c45))).trans (srF_none o46 _)))).symm.trans hres) (by rw [stM_up hkk]; rw [stM_s hkk] at hfuel; omega) _ _ hP hD hS ls (lv_sub hl [3, 4] rfl)
                              | some kt =>
                                have hkkt : kt < rn := hci _ _ o46
                                refine xtop (y := nI kt) ((hnw _ (by omega)).trans (nw_s o46)) ?_
                                obtain ⟨h10N, h12N, h15N, h18N, h22N, h24N, hb10N, hb12N, hb15N, hb18N, hb22N, hb24N⟩ := hmk kt (hkkt)
                                refine lv_iconst (v := (-1)) hx hb dX8_find_257 (by decide) ?_
                                refine lv_icmp_eq (tgt := 272) hx hb dX8_find_258 (by decide) (fun c48 => absurd c48 (nI_ne1 (by omega))) (fun c48 => ?_)
                                have hcl10 := cs_lt htt c45
                                refine lv_aload_n hx hb dX8_find_261 rfl (lv_at hl 3 rfl) ?_
                                refine lv_aload_n hx hb dX8_find_262 rfl (lv_at hl 3 rfl) ?_
                                refine xgt TX8_20 (v := .ref (ad 20)) hx hb hts hiX8 hown hev.1 hP 0 rfl (by decide) hf63 rfl dX8_find_263 ?_
                                refine lv_iload hx hb dX8_find_266 (lv_at hl 0 rfl) ?_
                                refine xiald (k := (6 * kk + (fp J))) hx hb hev.1 (xro hR0 hap hS) 3 1 rfl rfl (by omega) (by decide) dX8_find_268 ?_
                                refine xtop (y := nI tt) (ett) ?_
                                have hP := hP.sub (ws' := [(mo, .inr (9, mOb ad 0 (nI kn) (nI rn) (nI mn) (nI (J + 1)))), (ad 37, aZ E 10 s37), (ad 39, aI E 12 s39), (ad 40, aI E 12 f40)] ++ []) [0, 1, 2, 3] rfl
                                have hD := hD.sub (ws' := [(mo, .inr (9, mOb ad 0 (nI kn) (nI rn) (nI mn) (nI (J + 1)))), (ad 37, aZ E 10 s37), (ad 39, aI E 12 s39), (ad 40, aI E 12 f40)] ++ []) [0, 1, 2, 3] (by decide) rfl
                                refine xcv (va_runV (As := [.int (nI tt)]) (rest := []) ⟨hx, hb, hml, hown, hts⟩ (kX8_enter l E mo ad 0 kn rn mn (J + 1) s37 s39 f40 tt (by first | assumption | omega) (by first | assumption | omega) H.size) (cwV 1 hts gX8_find_X8_enter rfl rfl rfl (by decide +kernel) ⟨Nat.le_of_ble_eq_true rfl, Nat.le_of_ble_eq_true rfl⟩) ⟨CP.blind, (va_recv hev.1 hP.left (ci := 9) (q0 := 0) rfl rfl), (xpre hev hz hA hP hD hS hR0 hap [] rfl)⟩ rfl rfl hl.1 rfl (lv_room (Nat.le_of_ble_eq_true rfl)) dX8_find_269 ⟨Nat.le_of_ble_eq_true rfl, Nat.le_of_ble_eq_true rfl⟩) hP hD hS hA (fun w50 H locs h51 hP hD hS => ?_)
                                obtain ⟨g3752, g3953, g4054, rfl, h51⟩ := h51
                                try dsimp only at h51
                                try rw [show ((J + 1) + 1 : Nat) = J + 2 by omega] at hP hD
                                have hP : va_P E.1 vwCl [(mo, .inr (9, mOb ad 0 (nI kn) (nI rn) (nI mn) (nI (J + 2)))), (ad 37, aZ E 10 g3752), (ad 39, aI E 12 g3953), (ad 40, aI E 12 g4054)] H := hP
                                have hD : va_D A [(mo, .inr (9, mOb ad 0 (nI kn) (nI rn) (nI mn) (nI (J + 2)))), (ad 37, aZ E 10 g3752), (ad 39, aI E 12 g3953), (ad 40, aI E 12 g4054)] := hD
                                refine lv_goto (tgt := 57) hx hb dX8_find_272 (by decide) ?_
                                exact ih57  (J + 2) (updN fr (J + 1) tt) (updN (updN fp J (fp J + 1)) (J + 1) 0) g3752 g3953 g4054 (mm ||| (1 <<< (nI tt &&& 31))) (by rw [h51.1, cs_upd htt c45 (by decide)]; omega) (fun j hj => if e9 : j = J + 1 then ⟨by rw [e9, h51.2.1, upd_self, updN_s], by rw [e9, h51.2.2, upd_self, updN_s, nI_0], by rw [e9, updN_s]; exact htt, kt, by rw [e9, updN_s]; exact o46, by rw [e9, updN_s]; omega⟩ else (by rw [h51.2.1, h51.2.2, upd_ne e9, upd_ne e9, updN_n _ e9, updN_n _ e9]; exact hst2 j (by omega))) (by rw [h51.1]; exact bmk_up hbm htt (by decide)) ((congrArg fnd (rem_in (by omega) hkk hgo hlt9 kc44 hclt ((hbm tt htt).mpr c45) o46)).symm.trans hres) (by rw [stM_in hkk o46, h51.1, cs_upd htt c45 (by decide)]; rw [stM_s hkk] at hfuel; omega) _ _ hP hD hS ls (lv_sub hl [3, 4] rfl)
                        · skip
                          have kc39 : (fp J) = (pq kk 16) := (nI_eq (a := (fp J)) (b := (pq kk 16)) (by omega) (by omega)).mp c39
                          refine lv_aload_n hx hb dX8_find_180 rfl (lv_at hl 2 rfl) ?_
                          refine lv_dup hx hb dX8_find_181 rfl ?_
                          refine xgt TX8_38 (v := .int (nI (J + 1))) hx hb hts hiX8 hown hev.1 hP 0 rfl (by decide) hf291 rfl dX8_find_182 ?_
                          refine lv_iconst (v := 1) hx hb dX8_find_185 (by decide) ?_
                          refine lv_isub hx hb dX8_find_186 ?_
                          refine xtop (y := nI ((J + 1) - 1)) (pk_sub (a := (J + 1)) (b := 1) (by omega)) ?_
                          refine xtop (y := nI J) (congrArg nI (by omega)) ?_
                          refine xpt TX8_38 (v := (nI J)) hx hb hts hiX8 hown hev.1 hP hD hS 0 rfl (by decide) hf291 (Nat.le_of_ble_eq_true rfl) dX8_find_187 (fun H locs hP hD hS => ?_)
                          have hP : va_P E.1 vwCl [(mo, .inr (9, mOb ad 0 (nI kn) (nI rn) (nI mn) (nI J))), (ad 37, aZ E 10 s37), (ad 39, aI E 12 s39), (ad 40, aI E 12 s40)] H := hP
                          have hD : va_D A [(mo, .inr (9, mOb ad 0 (nI kn) (nI rn) (nI mn) (nI J))), (ad 37, aZ E 10 s37), (ad 39, aI E 12 s39), (ad 40, aI E 12 s40)] := hD
                          refine lv_goto (tgt := 57) hx hb dX8_find_190 (by decide) ?_
                          exact ih57  J fr fp s37 s39 s40 mm (by omega) (fun j hj => hst j (by omega)) (hbm) ((congrArg fnd (rem_pop hkk hgo (show ¬ fp J < pq kk 16 by omega))).symm.trans hres) (by rw [stM_s hkk] at hfuel; omega) _ _ hP hD hS ls (lv_sub hl [2, 3] rfl)
                      · skip
                        have kc38 := b1_n.mp c38
                        refine lv_iconst (v := (-1)) hx hb dX8_find_163 (by decide) ?_
                        refine xri hx hb hr hlocks hP hD hS ⟨(J + 1), s37, s39, s40, rfl, ?_⟩ dX8_find_164
                        exact Or.inr ⟨hcn, (show (-1 : Int32) = fnd (-2) by decide).trans ((congrArg fnd (rem_over hkk kc16 ⟨c18, kc38⟩)).symm.trans hres)⟩
                  · skip
                    have kc16 : (fp J) = 0 := (nI_eq (a := (fp J)) (b := 0) (by omega) (by omega)).mp c16
                    refine lv_aload_n hx hb dX8_find_92 rfl (lv_at hl 2 rfl) ?_
                    refine lv_iload_n hx hb dX8_find_93 rfl (lv_at hl 0 rfl) ?_
                    refine lv_iload_n hx hb dX8_find_94 rfl (lv_at hl 3 rfl) ?_
                    have hP := hP.sub (ws' := [] ++ [(mo, .inr (9, mOb ad 0 (nI kn) (nI rn) (nI mn) (nI (J + 1)))), (ad 37, aZ E 10 s37), (ad 39, aI E 12 s39), (ad 40, aI E 12 s40)]) [0, 1, 2, 3] rfl
                    have hD := hD.sub (ws' := [] ++ [(mo, .inr (9, mOb ad 0 (nI kn) (nI rn) (nI mn) (nI (J + 1)))), (ad 37, aZ E 10 s37), (ad 39, aI E 12 s39), (ad 40, aI E 12 s40)]) [0, 1, 2, 3] (by decide) rfl
                    refine xci (va_runV (As := [.int (nI kk), .int u]) (rest := []) ⟨hx, hb, hml, hown, hts⟩ (kX8_hasPath l E mo ad 0 kn rn mn (J + 1) am al pq kk u (by first | assumption | omega) (by first | assumption | omega) (by first | assumption | omega) H.size) (cwV 2 hts gX8_find_X8_hasPath rfl rfl rfl (by decide +kernel) ⟨Nat.le_of_ble_eq_true rfl, Nat.le_of_ble_eq_true rfl⟩) ⟨CP.blind, (va_recv hev.1 hP (ci := 9) (q0 := 0) rfl rfl), (xpre hev hz hA hP hD hS hR0 hap [0, 9, 10] rfl)⟩ rfl rfl hl.1 rfl (lv_room (Nat.le_of_ble_eq_true rfl)) dX8_find_95 ⟨Nat.le_of_ble_eq_true rfl, Nat.le_of_ble_eq_true rfl⟩) hP hD hS hA (fun r55 w56 H locs h57 hP hD hS => ?_)
                    obtain ⟨rfl, rfl, h57⟩ := h57
                    try dsimp only at h57
                    have hP : va_P E.1 vwCl [(mo, .inr (9, mOb ad 0 (nI kn) (nI rn) (nI mn) (nI (J + 1)))), (ad 37, aZ E 10 s37), (ad 39, aI E 12 s39), (ad 40, aI E 12 s40)] H := hP
                    have hD : va_D A [(mo, .inr (9, mOb ad 0 (nI kn) (nI rn) (nI mn) (nI (J + 1)))), (ad 37, aZ E 10 s37), (ad 39, aI E 12 s39), (ad 40, aI E 12 s40)] := hD
                    refine lv_if_eq (tgt := 108) hx hb dX8_find_98 (by decide) (fun c58 => ?_) (fun c58 => ?_)
                    · skip
                      have kc58 := b1_0.mp c58
                      refine lv_aload_n hx hb dX8_find_108 rfl (lv_at hl 2 rfl) ?_
                      refine xgt TX8_40 (v := .ref (ad 40)) hx hb hts hiX8 hown hev.1 hP 0 rfl (by decide) hf189 rfl dX8_find_109 ?_
                      refine lv_iload_n hx hb dX8_find_112 rfl (lv_at hl 1 rfl) ?_
                      refine xiald (k := (J)) hx hb hev.1 hP 3 1 rfl rfl (by omega) (by decide) dX8_find_113 ?_
                      refine xtop (y := nI (fp J)) (h40) ?_
                      refine lv_if_le (tgt := 165) hx hb dX8_find_114 (by decide) (fun c59 => ?_) (fun c59 => absurd ((nI_leI (a := (fp J)) (b := 0) (by omega) (by omega)).mpr (by omega)) c59)
                      have hgo : goes (prM am pq) u kk (fp J) := ⟨fun _ => kc58, fun z => absurd kc16 z⟩
                      refine lv_aload_n hx hb dX8_find_165 rfl (lv_at hl 2 rfl) ?_
                      refine xgt TX8_40 (v := .ref (ad 40)) hx hb hts hiX8 hown hev.1 hP 0 rfl (by decide) hf189 rfl dX8_find_166 ?_
                      refine lv_iload_n hx hb dX8_find_169 rfl (lv_at hl 1 rfl) ?_
                      refine xiald (k := (J)) hx hb hev.1 hP 3 1 rfl rfl (by omega) (by decide) dX8_find_170 ?_
                      refine xtop (y := nI (fp J)) (h40) ?_
                      refine lv_aload_n hx hb dX8_find_171 rfl (lv_at hl 2 rfl) ?_
                      refine xgt TX8_18 (v := .ref (ad 18)) hx hb hts hiX8 hown hev.1 hP 0 rfl (by decide) hf57 rfl dX8_find_172 ?_
                      refine lv_iload_n hx hb dX8_find_175 rfl (lv_at hl 0 rfl) ?_
                      refine xiald (k := (kk)) hx hb hev.1 (xro hR0 hap hS) 1 1 rfl rfl (by omega) (by decide) dX8_find_176 ?_
                      refine xtop (y := nI (pq kk 16)) (h18) ?_
                      refine lv_icmp_ne (tgt := 193) hx hb dX8_find_177 (by decide) (fun c60 => ?_) (fun c60 => ?_)
                      · skip
                        have kc60 : ¬ (fp J) = (pq kk 16) := fun h9 => c60 ((nI_eq (a := (fp J)) (b := (pq kk 16)) (by omega) (by omega)).mpr h9)
                        refine lv_bipush (v := 6) hx hb dX8_find_193 (by decide) ?_
                        refine lv_iload_n hx hb dX8_find_195 rfl (lv_at hl 0 rfl) ?_
                        refine lv_imul hx hb dX8_find_196 ?_
                        refine xtop (y := nI (6 * kk)) (pk_mul _ _) ?_
                        refine lv_aload_n hx hb dX8_find_197 rfl (lv_at hl 2 rfl) ?_
                        refine xgt TX8_40 (v := .ref (ad 40)) hx hb hts hiX8 hown hev.1 hP 0 rfl (by decide) hf189 rfl dX8_find_198 ?_
                        refine lv_iload_n hx hb dX8_find_201 rfl (lv_at hl 1 rfl) ?_
                        refine xiald (k := (J)) hx hb hev.1 hP 3 1 rfl rfl (by omega) (by decide) dX8_find_202 ?_
                        refine xtop (y := nI (fp J)) (h40) ?_
                        refine lv_iadd hx hb dX8_find_203 ?_
                        refine xtop (y := nI (6 * kk + (fp J))) ((nI_add (6 * kk) (fp J)).trans (congrArg nI (by omega))) ?_
                        refine lv_istore (lv' := [(4, .int (nI (6 * kk + (fp J)))), (3, .int (nI kk)), (2, .int (nI J)), (0, .ref mo), (1, .int u)]) hx hb dX8_find_204 hl (by decide) rfl (fun ls hl => ?_)
                        have hlt9 : fp J < pq kk 16 := by omega
                        obtain ⟨tt, htt, ett⟩ := hto kk hkr (fp J) hlt9
                        have hclt : ((prM am pq kk).2.2.2 6 (fp J)).toNatClampNeg = tt := by show (am 20 (6 * kk + fp J)).toNatClampNeg = tt; rw [ett]; exact nI_clamp (by omega)
                        refine lv_aload_n hx hb dX8_find_206 rfl (lv_at hl 3 rfl) ?_
                        refine xgt TX8_40 (v := .ref (ad 40)) hx hb hts hiX8 hown hev.1 hP 0 rfl (by decide) hf189 rfl dX8_find_207 ?_
                        refine lv_iload_n hx hb dX8_find_210 rfl (lv_at hl 2 rfl) ?_
                        refine lv_dup2_11 hx hb dX8_find_211 rfl rfl ?_
                        refine xiald (k := (J)) hx hb hev.1 hP 3 1 rfl rfl (by omega) (by decide) dX8_find_212 ?_
                        refine xtop (y := nI (fp J)) (h40) ?_
                        refine lv_iconst (v := 1) hx hb dX8_find_213 (by decide) ?_
                        refine lv_iadd hx hb dX8_find_214 ?_
                        refine xtop (y := nI (fp J + 1)) ((nI_add (fp J) 1).trans (congrArg nI (by omega))) ?_
                        refine xiast (k := J) hx hb hev.1 hP hD hS 3 1 rfl rfl (by omega) (by decide) dX8_find_215 (fun H locs hP hD hS => ?_)
                        obtain ⟨f61, ef61⟩ : ∃ y9_ : Nat → Int32, y9_ = upd s40 J (nI (fp J + 1)) := ⟨_, rfl⟩
                        rw [← ef61] at hP hD
                        have hP : va_P E.1 vwCl [(mo, .inr (9, mOb ad 0 (nI kn) (nI rn) (nI mn) (nI (J + 1)))), (ad 37, aZ E 10 s37), (ad 39, aI E 12 s39), (ad 40, aI E 12 f61)] H := hP
                        have hD : va_D A [(mo, .inr (9, mOb ad 0 (nI kn) (nI rn) (nI mn) (nI (J + 1)))), (ad 37, aZ E 10 s37), (ad 39, aI E 12 s39), (ad 40, aI E 12 f61)] := hD
                        have hst2 : ∀ j, j < J + 1 → s39 j = nI (fr j) ∧ f61 j = nI (updN fp J (fp J + 1) j) ∧ fr j < 10 ∧ ∃ k, ci (fr j) = some k ∧ updN fp J (fp J + 1) j ≤ pq k 16 := fun j hj => if e9 : j = J then ⟨by rw [e9]; exact h39, by rw [e9, ef61, upd_self, updN_s], by rw [e9]; exact hr10, kk, by rw [e9]; exact hkk, by rw [e9, updN_s]; omega⟩ else (by rw [ef61, upd_ne e9, updN_n _ e9]; exact hst j hj)
                        refine lv_aload_n hx hb dX8_find_216 rfl (lv_at hl 3 rfl) ?_
                        refine xgt TX8_19 (v := .ref (ad 19)) hx hb hts hiX8 hown hev.1 hP 0 rfl (by decide) hf60 rfl dX8_find_217 ?_
                        refine lv_iload hx hb dX8_find_220 (lv_at hl 0 rfl) ?_
                        refine xiald (k := (6 * kk + (fp J))) hx hb hev.1 (xro hR0 hap hS) 2 1 rfl rfl (by omega) (by decide) dX8_find_222 ?_
                        refine lv_iload_n hx hb dX8_find_223 rfl (lv_at hl 4 rfl) ?_
                        have hP := hP.sub (ws' := [] ++ [(mo, .inr (9, mOb ad 0 (nI kn) (nI rn) (nI mn) (nI (J + 1)))), (ad 37, aZ E 10 s37), (ad 39, aI E 12 s39), (ad 40, aI E 12 f61)]) [0, 1, 2, 3] rfl
                        have hD := hD.sub (ws' := [] ++ [(mo, .inr (9, mOb ad 0 (nI kn) (nI rn) (nI mn) (nI (J + 1)))), (ad 37, aZ E 10 s37), (ad 39, aI E 12 s39), (ad 40, aI E 12 f61)]) [0, 1, 2, 3] (by decide) rfl
                        refine xci (va_runS (As := [.int ((am 19) (6 * kk + (fp J))), .int u]) (rest := []) ⟨hx, hb, hml, hown, hts⟩ (kX8_fits l E ((am 19) (6 * kk + (fp J))) u  H.size) (va_cwS 2 hts gX8_find_X8_fits rfl rfl rfl (by decide +kernel) ⟨Nat.le_of_ble_eq_true rfl, Nat.le_of_ble_eq_true rfl⟩) ⟨CP.blind, (xpre hev hz hA hP hD hS hR0 hap [] rfl)⟩ rfl rfl hl.1 rfl (lv_room (Nat.le_of_ble_eq_true rfl)) dX8_find_224 ⟨Nat.le_of_ble_eq_true rfl, Nat.le_of_ble_eq_true rfl⟩) hP hD hS hA (fun r62 w63 H locs h64 hP hD hS => ?_)
                        obtain ⟨rfl, rfl, h64⟩ := h64
                        try dsimp only at h64
                        have hP : va_P E.1 vwCl [(mo, .inr (9, mOb ad 0 (nI kn) (nI rn) (nI mn) (nI (J + 1)))), (ad 37, aZ E 10 s37), (ad 39, aI E 12 s39), (ad 40, aI E 12 f61)] H := hP
                        have hD : va_D A [(mo, .inr (9, mOb ad 0 (nI kn) (nI rn) (nI mn) (nI (J + 1)))), (ad 37, aZ E 10 s37), (ad 39, aI E 12 s39), (ad 40, aI E 12 f61)] := hD
                        refine lv_if_eq (tgt := 272) hx hb dX8_find_227 (by decide) (fun c65 => ?_) (fun c65 => ?_)
                        · skip
                          have kc65 := b1_0.mp c65
                          refine lv_goto (tgt := 57) hx hb dX8_find_272 (by decide) ?_
                          exact ih57  (J + 1) fr (updN fp J (fp J + 1)) s37 s39 f61 mm (hdc) (hst2) (hbm) ((congrArg fnd (rem_skip hkk hgo hlt9 kc65)).symm.trans hres) (by rw [stM_up hkk]; rw [stM_s hkk] at hfuel; omega) _ _ hP hD hS ls (lv_sub hl [3, 4] rfl)
                        · skip
                          have kc65 := b1_n.mp c65
                          refine lv_aload_n hx hb dX8_find_230 rfl (lv_at hl 3 rfl) ?_
                          refine xgt TX8_37 (v := .ref (ad 37)) hx hb hts hiX8 hown hev.1 hP 0 rfl (by decide) hf183 rfl dX8_find_231 ?_
                          refine lv_aload_n hx hb dX8_find_234 rfl (lv_at hl 3 rfl) ?_
                          refine xgt TX8_20 (v := .ref (ad 20)) hx hb hts hiX8 hown hev.1 hP 0 rfl (by decide) hf63 rfl dX8_find_235 ?_
                          refine lv_iload hx hb dX8_find_238 (lv_at hl 0 rfl) ?_
                          refine xiald (k := (6 * kk + (fp J))) hx hb hev.1 (xro hR0 hap hS) 3 1 rfl rfl (by omega) (by decide) dX8_find_240 ?_
                          refine xtop (y := nI tt) (ett) ?_
                          refine xzald (k := (tt)) hx hb hev.1 hP 1 3 rfl rfl (by omega) (by decide) dX8_find_241 ?_
                          refine lv_if_ne (tgt := 272) hx hb dX8_find_242 (by decide) (fun c66 => ?_) (fun c66 => ?_)
                          · skip
                            refine lv_goto (tgt := 57) hx hb dX8_find_272 (by decide) ?_
                            exact ih57  (J + 1) fr (updN fp J (fp J + 1)) s37 s39 f61 mm (hdc) (hst2) (hbm) ((congrArg fnd (rem_none hkk hgo hlt9 kc65 hclt (pk2_t (fun z => c66 ((hbm tt htt).mp z))))).symm.trans hres) (by rw [stM_up hkk]; rw [stM_s hkk] at hfuel; omega) _ _ hP hD hS ls (lv_sub hl [3, 4] rfl)
                          · skip
                            refine lv_aload_n hx hb dX8_find_245 rfl (lv_at hl 3 rfl) ?_
                            refine xgt TX8_27 (v := .ref (ad 27)) hx hb hts hiX8 hown hev.1 hP 0 rfl (by decide) hf84 rfl dX8_find_246 ?_
                            refine lv_aload_n hx hb dX8_find_249 rfl (lv_at hl 3 rfl) ?_
                            refine xgt TX8_20 (v := .ref (ad 20)) hx hb hts hiX8 hown hev.1 hP 0 rfl (by decide) hf63 rfl dX8_find_250 ?_
                            refine lv_iload hx hb dX8_find_253 (lv_at hl 0 rfl) ?_
                            refine xiald (k := (6 * kk + (fp J))) hx hb hev.1 (xro hR0 hap hS) 3 1 rfl rfl (by omega) (by decide) dX8_find_255 ?_
                            refine xtop (y := nI tt) (ett) ?_
                            refine xiald (k := (tt)) hx hb hev.1 (xro hR0 hap hS) 0 1 rfl rfl (by omega) (by decide) dX8_find_256 ?_
                            cases o67 : ci tt with
                            | none =>
                              refine xtop (y := (-1)) ((hnw _ (by omega)).trans (nw_n o67)) ?_
                              refine lv_iconst (v := (-1)) hx hb dX8_find_257 (by decide) ?_
                              refine lv_icmp_eq (tgt := 272) hx hb dX8_find_258 (by decide) (fun c68 => ?_) (fun c68 => absurd (by decide) c68)
                              refine lv_goto (tgt := 57) hx hb dX8_find_272 (by decide) ?_
                              exact ih57  (J + 1) fr (updN fp J (fp J + 1)) s37 s39 f61 mm (hdc) (hst2) (hbm) ((congrArg fnd (rem_none hkk hgo hlt9 kc65 hclt ((pk2_f (fun z => z ((hbm tt htt).mpr c66))).trans (srF_none o67 _)))).symm.trans hres) (by rw [stM_up hkk]; rw [stM_s hkk] at hfuel; omega) _ _ hP hD hS ls (lv_sub hl [3, 4] rfl)
                            | some kt =>
                              have hkkt : kt < rn := hci _ _ o67
                              refine xtop (y := nI kt) ((hnw _ (by omega)).trans (nw_s o67)) ?_
                              obtain ⟨h10N, h12N, h15N, h18N, h22N, h24N, hb10N, hb12N, hb15N, hb18N, hb22N, hb24N⟩ := hmk kt (hkkt)
                              refine lv_iconst (v := (-1)) hx hb dX8_find_257 (by decide) ?_
                              refine lv_icmp_eq (tgt := 272) hx hb dX8_find_258 (by decide) (fun c69 => absurd c69 (nI_ne1 (by omega))) (fun c69 => ?_)
                              have hcl10 := cs_lt htt c66
                              refine lv_aload_n hx hb dX8_find_261 rfl (lv_at hl 3 rfl) ?_
                              refine lv_aload_n hx hb dX8_find_262 rfl (lv_at hl 3 rfl) ?_
                              refine xgt TX8_20 (v := .ref (ad 20)) hx hb hts hiX8 hown hev.1 hP 0 rfl (by decide) hf63 rfl dX8_find_263 ?_
                              refine lv_iload hx hb dX8_find_266 (lv_at hl 0 rfl) ?_
                              refine xiald (k := (6 * kk + (fp J))) hx hb hev.1 (xro hR0 hap hS) 3 1 rfl rfl (by omega) (by decide) dX8_find_268 ?_
                              refine xtop (y := nI tt) (ett) ?_
                              have hP := hP.sub (ws' := [(mo, .inr (9, mOb ad 0 (nI kn) (nI rn) (nI mn) (nI (J + 1)))), (ad 37, aZ E 10 s37), (ad 39, aI E 12 s39), (ad 40, aI E 12 f61)] ++ []) [0, 1, 2, 3] rfl
                              have hD := hD.sub (ws' := [(mo, .inr (9, mOb ad 0 (nI kn) (nI rn) (nI mn) (nI (J + 1)))), (ad 37, aZ E 10 s37), (ad 39, aI E 12 s39), (ad 40, aI E 12 f61)] ++ []) [0, 1, 2, 3] (by decide) rfl
                              refine xcv (va_runV (As := [.int (nI tt)]) (rest := []) ⟨hx, hb, hml, hown, hts⟩ (kX8_enter l E mo ad 0 kn rn mn (J + 1) s37 s39 f61 tt (by first | assumption | omega) (by first | assumption | omega) H.size) (cwV 1 hts gX8_find_X8_enter rfl rfl rfl (by decide +kernel) ⟨Nat.le_of_ble_eq_true rfl, Nat.le_of_ble_eq_true rfl⟩) ⟨CP.blind, (va_recv hev.1 hP.left (ci := 9) (q0 := 0) rfl rfl), (xpre hev hz hA hP hD hS hR0 hap [] rfl)⟩ rfl rfl hl.1 rfl (lv_room (Nat.le_of_ble_eq_true rfl)) dX8_find_269 ⟨Nat.le_of_ble_eq_true rfl, Nat.le_of_ble_eq_true rfl⟩) hP hD hS hA (fun w71 H locs h72 hP hD hS => ?_)
                              obtain ⟨g3773, g3974, g4075, rfl, h72⟩ := h72
                              try dsimp only at h72
                              try rw [show ((J + 1) + 1 : Nat) = J + 2 by omega] at hP hD
                              have hP : va_P E.1 vwCl [(mo, .inr (9, mOb ad 0 (nI kn) (nI rn) (nI mn) (nI (J + 2)))), (ad 37, aZ E 10 g3773), (ad 39, aI E 12 g3974), (ad 40, aI E 12 g4075)] H := hP
                              have hD : va_D A [(mo, .inr (9, mOb ad 0 (nI kn) (nI rn) (nI mn) (nI (J + 2)))), (ad 37, aZ E 10 g3773), (ad 39, aI E 12 g3974), (ad 40, aI E 12 g4075)] := hD
                              refine lv_goto (tgt := 57) hx hb dX8_find_272 (by decide) ?_
                              exact ih57  (J + 2) (updN fr (J + 1) tt) (updN (updN fp J (fp J + 1)) (J + 1) 0) g3773 g3974 g4075 (mm ||| (1 <<< (nI tt &&& 31))) (by rw [h72.1, cs_upd htt c66 (by decide)]; omega) (fun j hj => if e9 : j = J + 1 then ⟨by rw [e9, h72.2.1, upd_self, updN_s], by rw [e9, h72.2.2, upd_self, updN_s, nI_0], by rw [e9, updN_s]; exact htt, kt, by rw [e9, updN_s]; exact o67, by rw [e9, updN_s]; omega⟩ else (by rw [h72.2.1, h72.2.2, upd_ne e9, upd_ne e9, updN_n _ e9, updN_n _ e9]; exact hst2 j (by omega))) (by rw [h72.1]; exact bmk_up hbm htt (by decide)) ((congrArg fnd (rem_in (by omega) hkk hgo hlt9 kc65 hclt ((hbm tt htt).mpr c66) o67)).symm.trans hres) (by rw [stM_in hkk o67, h72.1, cs_upd htt c66 (by decide)]; rw [stM_s hkk] at hfuel; omega) _ _ hP hD hS ls (lv_sub hl [3, 4] rfl)
                      · skip
                        have kc60 : (fp J) = (pq kk 16) := (nI_eq (a := (fp J)) (b := (pq kk 16)) (by omega) (by omega)).mp c60
                        refine lv_aload_n hx hb dX8_find_180 rfl (lv_at hl 2 rfl) ?_
                        refine lv_dup hx hb dX8_find_181 rfl ?_
                        refine xgt TX8_38 (v := .int (nI (J + 1))) hx hb hts hiX8 hown hev.1 hP 0 rfl (by decide) hf291 rfl dX8_find_182 ?_
                        refine lv_iconst (v := 1) hx hb dX8_find_185 (by decide) ?_
                        refine lv_isub hx hb dX8_find_186 ?_
                        refine xtop (y := nI ((J + 1) - 1)) (pk_sub (a := (J + 1)) (b := 1) (by omega)) ?_
                        refine xtop (y := nI J) (congrArg nI (by omega)) ?_
                        refine xpt TX8_38 (v := (nI J)) hx hb hts hiX8 hown hev.1 hP hD hS 0 rfl (by decide) hf291 (Nat.le_of_ble_eq_true rfl) dX8_find_187 (fun H locs hP hD hS => ?_)
                        have hP : va_P E.1 vwCl [(mo, .inr (9, mOb ad 0 (nI kn) (nI rn) (nI mn) (nI J))), (ad 37, aZ E 10 s37), (ad 39, aI E 12 s39), (ad 40, aI E 12 s40)] H := hP
                        have hD : va_D A [(mo, .inr (9, mOb ad 0 (nI kn) (nI rn) (nI mn) (nI J))), (ad 37, aZ E 10 s37), (ad 39, aI E 12 s39), (ad 40, aI E 12 s40)] := hD
                        refine lv_goto (tgt := 57) hx hb dX8_find_190 (by decide) ?_
                        exact ih57  J fr fp s37 s39 s40 mm (by omega) (fun j hj => hst j (by omega)) (hbm) ((congrArg fnd (rem_pop hkk hgo (show ¬ fp J < pq kk 16 by omega))).symm.trans hres) (by rw [stM_s hkk] at hfuel; omega) _ _ hP hD hS ls (lv_sub hl [2, 3] rfl)
                    · skip
                      have kc58 := b1_n.mp c58
                      refine lv_aload_n hx hb dX8_find_101 rfl (lv_at hl 2 rfl) ?_
                      refine xgt TX8_39 (v := .ref (ad 39)) hx hb hts hiX8 hown hev.1 hP 0 rfl (by decide) hf186 rfl dX8_find_102 ?_
                      refine lv_iload_n hx hb dX8_find_105 rfl (lv_at hl 1 rfl) ?_
                      refine xiald (k := (J)) hx hb hev.1 hP 2 1 rfl rfl (by omega) (by decide) dX8_find_106 ?_
                      refine xtop (y := nI (fr J)) (h39) ?_
                      refine xri hx hb hr hlocks hP hD hS ⟨(J + 1), s37, s39, s40, rfl, ?_⟩ dX8_find_107
                      exact Or.inr ⟨hcn, (fnd_nI (by omega)).symm.trans ((congrArg fnd (rem_hit hkk hr10 kc16 kc58)).symm.trans hres)⟩
            exact loop57 200 1 (fun _ => 3) (fun _ => 0) g3712 g3913 g4014 ((0 : Int32) ||| ((1 : Int32) <<< (nI 3 &&& 31))) (by rw [h11.1, cs_upd (by omega) (hz3 3 (by omega)) (by decide)]; omega) (fun j hj => by have e9 : j = 0 := (by omega); subst e9; exact ⟨by rw [h11.2.1, upd_self], by rw [h11.2.2, upd_self, nI_0], by omega, k3, o5, Nat.zero_le _⟩) (by rw [h11.1]; exact bmk_up (fun k hk => ⟨fun _ => hz3 k hk, fun _ => Int32.zero_and⟩) (by omega) (by decide)) (by rw [rem_start o5]) (by rw [stM_s o5, stM, h11.1, cs_upd (by omega) (hz3 3 (by omega)) (by decide)]; omega) _ _ hP hD hS ls (lv_sub hl [1, 2] rfl)
          · skip
            have kc8 : ¬ 10 ≤ i := fun h9 => c8 ((nI_leI (a := 10) (b := i) (by omega) (by omega)).mpr h9)
            refine lv_aload_n hx hb dX8_find_34 rfl (lv_at hl 1 rfl) ?_
            refine xgt TX8_37 (v := .ref (ad 37)) hx hb hts hiX8 hown hev.1 hP 0 rfl (by decide) hf183 rfl dX8_find_35 ?_
            refine lv_iload_n hx hb dX8_find_38 rfl (lv_at hl 0 rfl) ?_
            refine lv_iconst (v := 0) hx hb dX8_find_39 (by decide) ?_
            refine xzast (k := i) hx hb hev.1 hP hD hS 1 3 rfl rfl (by omega) (by decide) dX8_find_40 (fun H locs hP hD hS => ?_)
            obtain ⟨f76, ef76⟩ : ∃ y9_ : Nat → Int32, y9_ = upd c37 i (vp_nar .boolean 0) := ⟨_, rfl⟩
            rw [← ef76] at hP hD
            have hP : va_P E.1 vwCl [(mo, .inr (9, mOb ad 0 (nI kn) (nI rn) (nI mn) (nI dp))), (ad 37, aZ E 10 f76), (ad 39, aI E 12 a39), (ad 40, aI E 12 a40)] H := hP
            have hD : va_D A [(mo, .inr (9, mOb ad 0 (nI kn) (nI rn) (nI mn) (nI dp))), (ad 37, aZ E 10 f76), (ad 39, aI E 12 a39), (ad 40, aI E 12 a40)] := hD
            refine lv_iinc (v := nI (i + 1)) (lv' := [(2, .int (nI (i + 1))), (0, .ref mo), (1, .int u)]) hx hb dX8_find_41 hl (k := 0) rfl ((nI_add i 1).trans (congrArg nI (by omega))) (by decide) rfl (fun ls hl => ?_)
            refine lv_goto (tgt := 28) hx hb dX8_find_44 (by decide) ?_
            exact ih28  (i + 1) f76 (by omega) (lt_s (fun k hk => by rw [ef76, upd_ne (by omega)]; exact hz9 k hk) (by rw [ef76, upd_self]; rfl)) (by omega) _ _ hP hD hS ls (lv_sub hl [0, 1, 2] rfl)
      exact loop28 11 0 a37 (by omega) (fun _ h9 => absurd h9 (by omega)) (by omega) _ _ hP hD hS ls (lv_sub hl [0, 1, 2] rfl)
