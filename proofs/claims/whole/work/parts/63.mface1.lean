abbrev pX8_key (E : xE) (mo : Nat) (ad : Nat → Nat) (th : Int32) (kn : Nat) (rn : Nat) (mn : Nat) (dp : Nat) (am : Nat → Nat → Int32) (al : Nat → Nat → Int64) (a : Int64) (b : Int64) (r : Int32) (w : va_W) : Prop := ∃ (n2 : Nat) (g3 : Nat → Int64) (g4 : Nat → Int64), w = [(mo, .inr (9, mOb ad 0 (nI n2) (nI rn) (nI mn) (nI dp))), (ad 3, aJ E 20 g3), (ad 4, aJ E 20 g4)] ∧ ((20 ≤ kn ∧ r = -1 ∧ n2 = kn ∧ g3 = al 3 ∧ g4 = al 4) ∨ (kn < 20 ∧ r = nI kn ∧ n2 = kn + 1 ∧ g3 = vp_updL (al 3) kn a ∧ g4 = vp_updL (al 4) kn b))
set_option maxHeartbeats 4000000 in
set_option maxRecDepth 100000 in
theorem kX8_key (l : Launch) (E : xE) (mo : Nat) (ad : Nat → Nat) (th : Int32) (kn : Nat) (rn : Nat) (mn : Nat) (dp : Nat) (am : Nat → Nat → Int32) (al : Nat → Nat → Int64) (a : Int64) (b : Int64) (hkn : kn ≤ 20) : KT l yX8_key wsX8_key 0 0 0 0 E [(mo, .inr (9, mOb ad th (nI kn) (nI rn) (nI mn) (nI dp))), (ad 3, aJ E 20 (al 3)), (ad 4, aJ E 20 (al 4))] [] [.ref mo, .long a, .long b] (QI E (pX8_key E mo ad th kn rn mn dp am al a b)) := by
  refine KT.start (cc := cX8_key) (maxL := 5) (ret := (some .int)) (by decide) rfl (Nat.le_of_ble_eq_true rfl) ?_
  intro p e s m below meth c A H hx hb hr hlocks hml hts hown hin hP hR0 hD hap hev hz hA hS ls hl
  have hl : lv_has ls 5 [(0, .ref mo), (1, .long a), (3, .long b)] := hl
  have hiX8 : ∀ w ∈ wsX80, w ∈ wsX8_key := fun _ h => List.mem_cons_of_mem _ (List.mem_append_right _ h)
  have hf13 := hts (.fieldLink RX8 13 "SignQuorumModel" "end" "[J") (by decide +kernel)
  have hf192 := hts (.fieldLink RX8 192 "SignQuorumModel" "thrown" "I") (by decide +kernel)
  have hf196 := hts (.fieldLink RX8 196 "SignQuorumModel" "keys" "I") (by decide +kernel)
  have hf7 := hts (.fieldLink RX8 7 "SignQuorumModel" "secret" "[J") (by decide +kernel)
  refine lv_aload_n hx hb dX8_key_0 rfl (lv_at hl 0 rfl) ?_
  refine lv_iconst (v := 0) hx hb dX8_key_1 (by decide) ?_
  refine xpt TX8_0 (v := 0) hx hb hts hiX8 hown hev.1 hP hD hS 0 rfl (by decide) hf192 (Nat.le_of_ble_eq_true rfl) dX8_key_2 (fun H locs hP hD hS => ?_)
  have hP : va_P E.1 vwCl [(mo, .inr (9, mOb ad 0 (nI kn) (nI rn) (nI mn) (nI dp))), (ad 3, aJ E 20 (al 3)), (ad 4, aJ E 20 (al 4))] H := hP
  have hD : va_D A [(mo, .inr (9, mOb ad 0 (nI kn) (nI rn) (nI mn) (nI dp))), (ad 3, aJ E 20 (al 3)), (ad 4, aJ E 20 (al 4))] := hD
  refine lv_aload_n hx hb dX8_key_5 rfl (lv_at hl 0 rfl) ?_
  refine xgt TX8_1 (v := .int (nI kn)) hx hb hts hiX8 hown hev.1 hP 0 rfl (by decide) hf196 rfl dX8_key_6 ?_
  refine lv_bipush (v := 20) hx hb dX8_key_9 (by decide) ?_
  refine lv_icmp_ne (tgt := 16) hx hb dX8_key_11 (by decide) (fun c1 => ?_) (fun c1 => ?_)
  · skip
    have kc1 : ¬ kn = 20 := fun h9 => c1 ((nI_eq (a := kn) (b := 20) (by omega) (by omega)).mpr h9)
    refine lv_aload_n hx hb dX8_key_16 rfl (lv_at hl 0 rfl) ?_
    refine xgt TX8_3 (v := .ref (ad 3)) hx hb hts hiX8 hown hev.1 hP 0 rfl (by decide) hf7 rfl dX8_key_17 ?_
    refine lv_aload_n hx hb dX8_key_20 rfl (lv_at hl 0 rfl) ?_
    refine xgt TX8_1 (v := .int (nI kn)) hx hb hts hiX8 hown hev.1 hP 0 rfl (by decide) hf196 rfl dX8_key_21 ?_
    refine lv_lload_n hx hb dX8_key_24 rfl (lv_at hl 1 rfl) ?_
    refine xlast (k := kn) hx hb hev.1 hP hD hS 1 2 rfl rfl (by omega) (by decide) dX8_key_25 (fun H locs hP hD hS => ?_)
    obtain ⟨f2, ef2⟩ : ∃ y9_ : Nat → Int64, y9_ = vp_updL (al 3) kn a := ⟨_, rfl⟩
    rw [← ef2] at hP hD
    have hP : va_P E.1 vwCl [(mo, .inr (9, mOb ad 0 (nI kn) (nI rn) (nI mn) (nI dp))), (ad 3, aJ E 20 f2), (ad 4, aJ E 20 (al 4))] H := hP
    have hD : va_D A [(mo, .inr (9, mOb ad 0 (nI kn) (nI rn) (nI mn) (nI dp))), (ad 3, aJ E 20 f2), (ad 4, aJ E 20 (al 4))] := hD
    refine lv_aload_n hx hb dX8_key_26 rfl (lv_at hl 0 rfl) ?_
    refine xgt TX8_4 (v := .ref (ad 4)) hx hb hts hiX8 hown hev.1 hP 0 rfl (by decide) hf13 rfl dX8_key_27 ?_
    refine lv_aload_n hx hb dX8_key_30 rfl (lv_at hl 0 rfl) ?_
    refine xgt TX8_1 (v := .int (nI kn)) hx hb hts hiX8 hown hev.1 hP 0 rfl (by decide) hf196 rfl dX8_key_31 ?_
    refine lv_lload_n hx hb dX8_key_34 rfl (lv_at hl 2 rfl) ?_
    refine xlast (k := kn) hx hb hev.1 hP hD hS 2 2 rfl rfl (by omega) (by decide) dX8_key_35 (fun H locs hP hD hS => ?_)
    obtain ⟨f3, ef3⟩ : ∃ y9_ : Nat → Int64, y9_ = vp_updL (al 4) kn b := ⟨_, rfl⟩
    rw [← ef3] at hP hD
    have hP : va_P E.1 vwCl [(mo, .inr (9, mOb ad 0 (nI kn) (nI rn) (nI mn) (nI dp))), (ad 3, aJ E 20 f2), (ad 4, aJ E 20 f3)] H := hP
    have hD : va_D A [(mo, .inr (9, mOb ad 0 (nI kn) (nI rn) (nI mn) (nI dp))), (ad 3, aJ E 20 f2), (ad 4, aJ E 20 f3)] := hD
    refine lv_aload_n hx hb dX8_key_36 rfl (lv_at hl 0 rfl) ?_
    refine lv_dup hx hb dX8_key_37 rfl ?_
    refine xgt TX8_1 (v := .int (nI kn)) hx hb hts hiX8 hown hev.1 hP 0 rfl (by decide) hf196 rfl dX8_key_38 ?_
    refine lv_iconst (v := 1) hx hb dX8_key_41 (by decide) ?_
    refine lv_iadd hx hb dX8_key_42 ?_
    refine xtop (y := nI (kn + 1)) ((nI_add kn 1).trans (congrArg nI (by omega))) ?_
    refine xpt TX8_1 (v := (nI (kn + 1))) hx hb hts hiX8 hown hev.1 hP hD hS 0 rfl (by decide) hf196 (Nat.le_of_ble_eq_true rfl) dX8_key_43 (fun H locs hP hD hS => ?_)
    have hP : va_P E.1 vwCl [(mo, .inr (9, mOb ad 0 (nI (kn + 1)) (nI rn) (nI mn) (nI dp))), (ad 3, aJ E 20 f2), (ad 4, aJ E 20 f3)] H := hP
    have hD : va_D A [(mo, .inr (9, mOb ad 0 (nI (kn + 1)) (nI rn) (nI mn) (nI dp))), (ad 3, aJ E 20 f2), (ad 4, aJ E 20 f3)] := hD
    refine lv_aload_n hx hb dX8_key_46 rfl (lv_at hl 0 rfl) ?_
    refine xgt TX8_1 (v := .int (nI (kn + 1))) hx hb hts hiX8 hown hev.1 hP 0 rfl (by decide) hf196 rfl dX8_key_47 ?_
    refine lv_iconst (v := 1) hx hb dX8_key_50 (by decide) ?_
    refine lv_isub hx hb dX8_key_51 ?_
    refine xtop (y := nI ((kn + 1) - 1)) (pk_sub (a := (kn + 1)) (b := 1) (by omega)) ?_
    refine xtop (y := nI kn) (congrArg nI (by omega)) ?_
    refine xri hx hb hr hlocks hP hD hS ⟨(kn + 1), f2, f3, rfl, ?_⟩ dX8_key_52
    exact Or.inr ⟨by omega, rfl, rfl, by assumption, by assumption⟩
  · skip
    have kc1 : kn = 20 := (nI_eq (a := kn) (b := 20) (by omega) (by omega)).mp c1
    refine lv_iconst (v := (-1)) hx hb dX8_key_14 (by decide) ?_
    refine xri hx hb hr hlocks hP hD hS ⟨kn, (al 3), (al 4), rfl, ?_⟩ dX8_key_15
    exact Or.inl ⟨by omega, rfl, rfl, rfl, rfl⟩

abbrev pX8_quorum (E : xE) (mo : Nat) (ad : Nat → Nat) (th : Int32) (kn : Nat) (rn : Nat) (mn : Nat) (dp : Nat) (am : Nat → Nat → Int32) (al : Nat → Nat → Int64) (y : Int32) (v : Int32) (r : Int32) (w : va_W) : Prop := ∃ (g6 : Nat → Int32), w = [(mo, .inr (9, mOb ad 0 (nI kn) (nI rn) (nI mn) (nI dp))), (ad 6, aI E 10 g6)] ∧ ((∃ j, j < 10 ∧ y = nI j ∧ ¬ v < 1 ∧ v ≤ 9 ∧ r = 1 ∧ g6 = upd (am 6) j v) ∨ (¬ (isN y 10 ∧ ¬ v < 1 ∧ v ≤ 9) ∧ r = 0 ∧ g6 = am 6))
set_option maxHeartbeats 4000000 in
set_option maxRecDepth 100000 in
theorem kX8_quorum (l : Launch) (E : xE) (mo : Nat) (ad : Nat → Nat) (th : Int32) (kn : Nat) (rn : Nat) (mn : Nat) (dp : Nat) (am : Nat → Nat → Int32) (al : Nat → Nat → Int64) (y : Int32) (v : Int32)  : KT l yX8_quorum wsX8_quorum 1 20 0 0 E [(mo, .inr (9, mOb ad th (nI kn) (nI rn) (nI mn) (nI dp))), (ad 6, aI E 10 (am 6))] [] [.ref mo, .int y, .int v] (QI E (pX8_quorum E mo ad th kn rn mn dp am al y v)) := by
  refine KT.start (cc := cX8_quorum) (maxL := 3) (ret := (some .boolean)) (by decide) rfl (Nat.le_of_ble_eq_true rfl) ?_
  intro p e s m below meth c A H hx hb hr hlocks hml hts hown hin hP hR0 hD hap hev hz hA hS ls hl
  have hl : lv_has ls 3 [(0, .ref mo), (1, .int y), (2, .int v)] := hl
  have hiX8 : ∀ w ∈ wsX80, w ∈ wsX8_quorum := fun _ h => List.mem_cons_of_mem _ (List.mem_append_right _ h)
  have hf192 := hts (.fieldLink RX8 192 "SignQuorumModel" "thrown" "I") (by decide +kernel)
  have hf20 := hts (.fieldLink RX8 20 "SignQuorumModel" "draftQuorum" "[I") (by decide +kernel)
  refine lv_aload_n hx hb dX8_quorum_0 rfl (lv_at hl 0 rfl) ?_
  refine lv_iconst (v := 0) hx hb dX8_quorum_1 (by decide) ?_
  refine xpt TX8_0 (v := 0) hx hb hts hiX8 hown hev.1 hP hD hS 0 rfl (by decide) hf192 (Nat.le_of_ble_eq_true rfl) dX8_quorum_2 (fun H locs hP hD hS => ?_)
  have hP : va_P E.1 vwCl [(mo, .inr (9, mOb ad 0 (nI kn) (nI rn) (nI mn) (nI dp))), (ad 6, aI E 10 (am 6))] H := hP
  have hD : va_D A [(mo, .inr (9, mOb ad 0 (nI kn) (nI rn) (nI mn) (nI dp))), (ad 6, aI E 10 (am 6))] := hD
  refine lv_iload_n hx hb dX8_quorum_5 rfl (lv_at hl 1 rfl) ?_
  have hP := hP.sub (ws' := [] ++ [(mo, .inr (9, mOb ad 0 (nI kn) (nI rn) (nI mn) (nI dp))), (ad 6, aI E 10 (am 6))]) [0, 1] rfl
  have hD := hD.sub (ws' := [] ++ [(mo, .inr (9, mOb ad 0 (nI kn) (nI rn) (nI mn) (nI dp))), (ad 6, aI E 10 (am 6))]) [0, 1] (by decide) rfl
  refine xci (va_runS (As := [.int y]) (rest := []) ⟨hx, hb, hml, hown, hts⟩ (kX8_isRole l E y  H.size) (va_cwS 1 hts gX8_quorum_X8_isRole rfl rfl rfl (by decide +kernel) ⟨Nat.le_of_ble_eq_true rfl, Nat.le_of_ble_eq_true rfl⟩) ⟨CP.blind, (xpre hev hz hA hP hD hS hR0 hap [] rfl)⟩ rfl rfl hl.1 rfl (lv_room (Nat.le_of_ble_eq_true rfl)) dX8_quorum_6 ⟨Nat.le_of_ble_eq_true rfl, Nat.le_of_ble_eq_true rfl⟩) hP hD hS hA (fun r1 w2 H locs h3 hP hD hS => ?_)
  obtain ⟨rfl, rfl, h3⟩ := h3
  try dsimp only at h3
  have hP : va_P E.1 vwCl [(mo, .inr (9, mOb ad 0 (nI kn) (nI rn) (nI mn) (nI dp))), (ad 6, aI E 10 (am 6))] H := hP
  have hD : va_D A [(mo, .inr (9, mOb ad 0 (nI kn) (nI rn) (nI mn) (nI dp))), (ad 6, aI E 10 (am 6))] := hD
  refine lv_if_eq (tgt := 23) hx hb dX8_quorum_9 (by decide) (fun c4 => ?_) (fun c4 => ?_)
  · skip
    have kc4 := b1_0.mp c4
    refine lv_iconst (v := 0) hx hb dX8_quorum_23 (by decide) ?_
    refine xrz hx hb hr hlocks (by first | rfl | decide | exact b1_narrow _) hP hD hS ⟨(am 6), rfl, ?_⟩ dX8_quorum_24
    exact Or.inr ⟨fun z => kc4 z.1, rfl, rfl⟩
  · skip
    have kc4 := b1_n.mp c4
    refine lv_iload_n hx hb dX8_quorum_12 rfl (lv_at hl 2 rfl) ?_
    refine lv_iconst (v := 1) hx hb dX8_quorum_13 (by decide) ?_
    refine lv_icmp_lt (tgt := 23) hx hb dX8_quorum_14 (by decide) (fun c5 => ?_) (fun c5 => ?_)
    · skip
      refine lv_iconst (v := 0) hx hb dX8_quorum_23 (by decide) ?_
      refine xrz hx hb hr hlocks (by first | rfl | decide | exact b1_narrow _) hP hD hS ⟨(am 6), rfl, ?_⟩ dX8_quorum_24
      exact Or.inr ⟨fun z => z.2.1 c5, rfl, rfl⟩
    · skip
      refine lv_iload_n hx hb dX8_quorum_17 rfl (lv_at hl 2 rfl) ?_
      refine lv_bipush (v := 9) hx hb dX8_quorum_18 (by decide) ?_
      refine lv_icmp_le (tgt := 25) hx hb dX8_quorum_20 (by decide) (fun c6 => ?_) (fun c6 => ?_)
      · skip
        obtain ⟨j, hj, rfl⟩ := kc4
        refine lv_aload_n hx hb dX8_quorum_25 rfl (lv_at hl 0 rfl) ?_
        refine xgt TX8_6 (v := .ref (ad 6)) hx hb hts hiX8 hown hev.1 hP 0 rfl (by decide) hf20 rfl dX8_quorum_26 ?_
        refine lv_iload_n hx hb dX8_quorum_29 rfl (lv_at hl 1 rfl) ?_
        refine lv_iload_n hx hb dX8_quorum_30 rfl (lv_at hl 2 rfl) ?_
        refine xiast (k := j) hx hb hev.1 hP hD hS 1 1 rfl rfl (by omega) (by decide) dX8_quorum_31 (fun H locs hP hD hS => ?_)
        obtain ⟨f7, ef7⟩ : ∃ y9_ : Nat → Int32, y9_ = upd (am 6) j v := ⟨_, rfl⟩
        rw [← ef7] at hP hD
        have hP : va_P E.1 vwCl [(mo, .inr (9, mOb ad 0 (nI kn) (nI rn) (nI mn) (nI dp))), (ad 6, aI E 10 f7)] H := hP
        have hD : va_D A [(mo, .inr (9, mOb ad 0 (nI kn) (nI rn) (nI mn) (nI dp))), (ad 6, aI E 10 f7)] := hD
        refine lv_iconst (v := 1) hx hb dX8_quorum_32 (by decide) ?_
        refine xrz hx hb hr hlocks (by first | rfl | decide | exact b1_narrow _) hP hD hS ⟨f7, rfl, ?_⟩ dX8_quorum_33
        exact Or.inl ⟨j, hj, rfl, c5, c6, rfl, by assumption⟩
      · skip
        refine lv_iconst (v := 0) hx hb dX8_quorum_23 (by decide) ?_
        refine xrz hx hb hr hlocks (by first | rfl | decide | exact b1_narrow _) hP hD hS ⟨(am 6), rfl, ?_⟩ dX8_quorum_24
        exact Or.inr ⟨fun z => c6 z.2.2, rfl, rfl⟩

abbrev pX8_holds (E : xE) (mo : Nat) (ad : Nat → Nat) (th : Int32) (kn : Nat) (rn : Nat) (mn : Nat) (dp : Nat) (am : Nat → Nat → Int32) (al : Nat → Nat → Int64) (y : Int32) (z : Int32) (on : Int32) (r : Int32) (w : va_W) : Prop := ∃ (g7 : Nat → Int32), w = [(mo, .inr (9, mOb ad 0 (nI kn) (nI rn) (nI mn) (nI dp))), (ad 7, aI E 10 g7)] ∧ ((∃ j, j < 10 ∧ y = nI j ∧ isN z kn ∧ r = 1 ∧ (on = 0 → g7 = upd (am 7) j (am 7 j &&& ((1 <<< (z &&& 31)) ^^^ (-1)))) ∧ (¬ on = 0 → g7 = upd (am 7) j (am 7 j ||| (1 <<< (z &&& 31))))) ∨ (¬ (isN y 10 ∧ isN z kn) ∧ r = 0 ∧ g7 = am 7))
set_option maxHeartbeats 4000000 in
set_option maxRecDepth 100000 in
theorem kX8_holds (l : Launch) (E : xE) (mo : Nat) (ad : Nat → Nat) (th : Int32) (kn : Nat) (rn : Nat) (mn : Nat) (dp : Nat) (am : Nat → Nat → Int32) (al : Nat → Nat → Int64) (y : Int32) (z : Int32) (on : Int32) (hkn : kn ≤ 20) : KT l yX8_holds wsX8_holds 1 21 0 0 E [(mo, .inr (9, mOb ad th (nI kn) (nI rn) (nI mn) (nI dp))), (ad 7, aI E 10 (am 7))] [] [.ref mo, .int y, .int z, .int on] (QI E (pX8_holds E mo ad th kn rn mn dp am al y z on)) := by
  refine KT.start (cc := cX8_holds) (maxL := 4) (ret := (some .boolean)) (by decide) rfl (Nat.le_of_ble_eq_true rfl) ?_
  intro p e s m below meth c A H hx hb hr hlocks hml hts hown hin hP hR0 hD hap hev hz hA hS ls hl
  have hl : lv_has ls 4 [(0, .ref mo), (1, .int y), (2, .int z), (3, .int on)] := hl
  have hiX8 : ∀ w ∈ wsX80, w ∈ wsX8_holds := fun _ h => List.mem_cons_of_mem _ (List.mem_append_right _ h)
  have hf192 := hts (.fieldLink RX8 192 "SignQuorumModel" "thrown" "I") (by decide +kernel)
  have hf24 := hts (.fieldLink RX8 24 "SignQuorumModel" "draftSet" "[I") (by decide +kernel)
  refine lv_aload_n hx hb dX8_holds_0 rfl (lv_at hl 0 rfl) ?_
  refine lv_iconst (v := 0) hx hb dX8_holds_1 (by decide) ?_
  refine xpt TX8_0 (v := 0) hx hb hts hiX8 hown hev.1 hP hD hS 0 rfl (by decide) hf192 (Nat.le_of_ble_eq_true rfl) dX8_holds_2 (fun H locs hP hD hS => ?_)
  have hP : va_P E.1 vwCl [(mo, .inr (9, mOb ad 0 (nI kn) (nI rn) (nI mn) (nI dp))), (ad 7, aI E 10 (am 7))] H := hP
  have hD : va_D A [(mo, .inr (9, mOb ad 0 (nI kn) (nI rn) (nI mn) (nI dp))), (ad 7, aI E 10 (am 7))] := hD
  refine lv_iload_n hx hb dX8_holds_5 rfl (lv_at hl 1 rfl) ?_
  have hP := hP.sub (ws' := [] ++ [(mo, .inr (9, mOb ad 0 (nI kn) (nI rn) (nI mn) (nI dp))), (ad 7, aI E 10 (am 7))]) [0, 1] rfl
  have hD := hD.sub (ws' := [] ++ [(mo, .inr (9, mOb ad 0 (nI kn) (nI rn) (nI mn) (nI dp))), (ad 7, aI E 10 (am 7))]) [0, 1] (by decide) rfl
  refine xci (va_runS (As := [.int y]) (rest := []) ⟨hx, hb, hml, hown, hts⟩ (kX8_isRole l E y  H.size) (va_cwS 1 hts gX8_holds_X8_isRole rfl rfl rfl (by decide +kernel) ⟨Nat.le_of_ble_eq_true rfl, Nat.le_of_ble_eq_true rfl⟩) ⟨CP.blind, (xpre hev hz hA hP hD hS hR0 hap [] rfl)⟩ rfl rfl hl.1 rfl (lv_room (Nat.le_of_ble_eq_true rfl)) dX8_holds_6 ⟨Nat.le_of_ble_eq_true rfl, Nat.le_of_ble_eq_true rfl⟩) hP hD hS hA (fun r1 w2 H locs h3 hP hD hS => ?_)
  obtain ⟨rfl, rfl, h3⟩ := h3
  try dsimp only at h3
  have hP : va_P E.1 vwCl [(mo, .inr (9, mOb ad 0 (nI kn) (nI rn) (nI mn) (nI dp))), (ad 7, aI E 10 (am 7))] H := hP
  have hD : va_D A [(mo, .inr (9, mOb ad 0 (nI kn) (nI rn) (nI mn) (nI dp))), (ad 7, aI E 10 (am 7))] := hD
  refine lv_if_eq (tgt := 20) hx hb dX8_holds_9 (by decide) (fun c4 => ?_) (fun c4 => ?_)
  · skip
    have kc4 := b1_0.mp c4
    refine lv_iconst (v := 0) hx hb dX8_holds_20 (by decide) ?_
    refine xrz hx hb hr hlocks (by first | rfl | decide | exact b1_narrow _) hP hD hS ⟨(am 7), rfl, ?_⟩ dX8_holds_21
    exact Or.inr ⟨fun h9 => kc4 h9.1, rfl, rfl⟩
  · skip
    have kc4 := b1_n.mp c4
    refine lv_aload_n hx hb dX8_holds_12 rfl (lv_at hl 0 rfl) ?_
    refine lv_iload_n hx hb dX8_holds_13 rfl (lv_at hl 2 rfl) ?_
    have hP := hP.sub (ws' := [] ++ [(mo, .inr (9, mOb ad 0 (nI kn) (nI rn) (nI mn) (nI dp))), (ad 7, aI E 10 (am 7))]) [0, 1] rfl
    have hD := hD.sub (ws' := [] ++ [(mo, .inr (9, mOb ad 0 (nI kn) (nI rn) (nI mn) (nI dp))), (ad 7, aI E 10 (am 7))]) [0, 1] (by decide) rfl
    refine xci (va_runV (As := [.int z]) (rest := []) ⟨hx, hb, hml, hown, hts⟩ (kX8_isKey l E mo ad 0 kn rn mn dp z (by first | assumption | omega) H.size) (cwV 1 hts gX8_holds_X8_isKey rfl rfl rfl (by decide +kernel) ⟨Nat.le_of_ble_eq_true rfl, Nat.le_of_ble_eq_true rfl⟩) ⟨CP.blind, (va_recv hev.1 hP (ci := 9) (q0 := 0) rfl rfl), (xpre hev hz hA hP hD hS hR0 hap [0] rfl)⟩ rfl rfl hl.1 rfl (lv_room (Nat.le_of_ble_eq_true rfl)) dX8_holds_14 ⟨Nat.le_of_ble_eq_true rfl, Nat.le_of_ble_eq_true rfl⟩) hP hD hS hA (fun r5 w6 H locs h7 hP hD hS => ?_)
    obtain ⟨rfl, rfl, h7⟩ := h7
    try dsimp only at h7
    have hP : va_P E.1 vwCl [(mo, .inr (9, mOb ad 0 (nI kn) (nI rn) (nI mn) (nI dp))), (ad 7, aI E 10 (am 7))] H := hP
    have hD : va_D A [(mo, .inr (9, mOb ad 0 (nI kn) (nI rn) (nI mn) (nI dp))), (ad 7, aI E 10 (am 7))] := hD
    refine lv_if_ne (tgt := 22) hx hb dX8_holds_17 (by decide) (fun c8 => ?_) (fun c8 => ?_)
    · skip
      have kc8 := b1_n.mp c8
      obtain ⟨j, hj, rfl⟩ := kc4
      refine lv_aload_n hx hb dX8_holds_22 rfl (lv_at hl 0 rfl) ?_
      refine xgt TX8_7 (v := .ref (ad 7)) hx hb hts hiX8 hown hev.1 hP 0 rfl (by decide) hf24 rfl dX8_holds_23 ?_
      refine lv_iload_n hx hb dX8_holds_26 rfl (lv_at hl 1 rfl) ?_
      refine lv_iload_n hx hb dX8_holds_27 rfl (lv_at hl 3 rfl) ?_
      refine lv_if_eq (tgt := 44) hx hb dX8_holds_28 (by decide) (fun c9 => ?_) (fun c9 => ?_)
      · skip
        refine lv_aload_n hx hb dX8_holds_44 rfl (lv_at hl 0 rfl) ?_
        refine xgt TX8_7 (v := .ref (ad 7)) hx hb hts hiX8 hown hev.1 hP 0 rfl (by decide) hf24 rfl dX8_holds_45 ?_
        refine lv_iload_n hx hb dX8_holds_48 rfl (lv_at hl 1 rfl) ?_
        refine xiald (k := (j)) hx hb hev.1 hP 1 1 rfl rfl (by omega) (by decide) dX8_holds_49 ?_
        refine lv_iconst (v := 1) hx hb dX8_holds_50 (by decide) ?_
        refine lv_iload_n hx hb dX8_holds_51 rfl (lv_at hl 2 rfl) ?_
        refine lv_ishl hx hb dX8_holds_52 ?_
        refine lv_iconst (v := (-1)) hx hb dX8_holds_53 (by decide) ?_
        refine lv_ixor hx hb dX8_holds_54 ?_
        refine lv_iand hx hb dX8_holds_55 ?_
        refine xiast (k := j) hx hb hev.1 hP hD hS 1 1 rfl rfl (by omega) (by decide) dX8_holds_56 (fun H locs hP hD hS => ?_)
        obtain ⟨f10, ef10⟩ : ∃ y9_ : Nat → Int32, y9_ = upd (am 7) j (((am 7) j) &&& ((1 <<< (z &&& 31)) ^^^ (-1))) := ⟨_, rfl⟩
        rw [← ef10] at hP hD
        have hP : va_P E.1 vwCl [(mo, .inr (9, mOb ad 0 (nI kn) (nI rn) (nI mn) (nI dp))), (ad 7, aI E 10 f10)] H := hP
        have hD : va_D A [(mo, .inr (9, mOb ad 0 (nI kn) (nI rn) (nI mn) (nI dp))), (ad 7, aI E 10 f10)] := hD
        refine lv_iconst (v := 1) hx hb dX8_holds_57 (by decide) ?_
        refine xrz hx hb hr hlocks (by first | rfl | decide | exact b1_narrow _) hP hD hS ⟨f10, rfl, ?_⟩ dX8_holds_58
        exact Or.inl ⟨j, hj, rfl, kc8, rfl, fun _ => by subst_vars; rfl, fun h9 => absurd c9 h9⟩
      · skip
        refine lv_aload_n hx hb dX8_holds_31 rfl (lv_at hl 0 rfl) ?_
        refine xgt TX8_7 (v := .ref (ad 7)) hx hb hts hiX8 hown hev.1 hP 0 rfl (by decide) hf24 rfl dX8_holds_32 ?_
        refine lv_iload_n hx hb dX8_holds_35 rfl (lv_at hl 1 rfl) ?_
        refine xiald (k := (j)) hx hb hev.1 hP 1 1 rfl rfl (by omega) (by decide) dX8_holds_36 ?_
        refine lv_iconst (v := 1) hx hb dX8_holds_37 (by decide) ?_
        refine lv_iload_n hx hb dX8_holds_38 rfl (lv_at hl 2 rfl) ?_
        refine lv_ishl hx hb dX8_holds_39 ?_
        refine lv_ior hx hb dX8_holds_40 ?_
        refine lv_goto (tgt := 56) hx hb dX8_holds_41 (by decide) ?_
        refine xiast (k := j) hx hb hev.1 hP hD hS 1 1 rfl rfl (by omega) (by decide) dX8_holds_56 (fun H locs hP hD hS => ?_)
        obtain ⟨f11, ef11⟩ : ∃ y9_ : Nat → Int32, y9_ = upd (am 7) j (((am 7) j) ||| (1 <<< (z &&& 31))) := ⟨_, rfl⟩
        rw [← ef11] at hP hD
        have hP : va_P E.1 vwCl [(mo, .inr (9, mOb ad 0 (nI kn) (nI rn) (nI mn) (nI dp))), (ad 7, aI E 10 f11)] H := hP
        have hD : va_D A [(mo, .inr (9, mOb ad 0 (nI kn) (nI rn) (nI mn) (nI dp))), (ad 7, aI E 10 f11)] := hD
        refine lv_iconst (v := 1) hx hb dX8_holds_57 (by decide) ?_
        refine xrz hx hb hr hlocks (by first | rfl | decide | exact b1_narrow _) hP hD hS ⟨f11, rfl, ?_⟩ dX8_holds_58
        exact Or.inl ⟨j, hj, rfl, kc8, rfl, fun h9 => absurd h9 c9, fun _ => by subst_vars; rfl⟩
    · skip
      have kc8 := b1_0.mp c8
      refine lv_iconst (v := 0) hx hb dX8_holds_20 (by decide) ?_
      refine xrz hx hb hr hlocks (by first | rfl | decide | exact b1_narrow _) hP hD hS ⟨(am 7), rfl, ?_⟩ dX8_holds_21
      exact Or.inr ⟨fun h9 => kc8 h9.2, rfl, rfl⟩

abbrev pX8_row (E : xE) (mo : Nat) (ad : Nat → Nat) (th : Int32) (kn : Nat) (rn : Nat) (mn : Nat) (dp : Nat) (am : Nat → Nat → Int32) (al : Nat → Nat → Int64) (j : Nat) (v : Int32) (u : Int64) (r : Int32) (w : va_W) : Prop := ∃ (g10 : Nat → Int32) (g11 : Nat → Int32) (g14 : Nat → Int64) (g8 : Nat → Int32) (g9 : Nat → Int32), w = [(mo, .inr (9, mOb ad 0 (nI kn) (nI (rn + 1)) (nI mn) (nI dp))), (ad 10, aI E 24 g10), (ad 11, aI E 24 g11), (ad 14, aJ E 24 g14), (ad 8, aI E 240 g8), (ad 9, aI E 240 g9)] ∧ r = nI rn ∧ (g10 = upd (am 10) rn (nI j) ∧ g11 = upd (am 11) rn v ∧ g14 = vp_updL (al 14) rn u ∧ (∀ k, k < 10 → g8 (10 * rn + k) = am 6 k ∧ g9 (10 * rn + k) = am 7 k) ∧ ∀ k, k < 10 * rn → g8 k = am 8 k ∧ g9 k = am 9 k)
set_option maxHeartbeats 4000000 in
set_option maxRecDepth 100000 in
theorem kX8_row (l : Launch) (E : xE) (mo : Nat) (ad : Nat → Nat) (th : Int32) (kn : Nat) (rn : Nat) (mn : Nat) (dp : Nat) (am : Nat → Nat → Int32) (al : Nat → Nat → Int64) (j : Nat) (v : Int32) (u : Int64) (hr24 : rn < 24) (hj : j < 10) (hv : (¬ v < 1 ∧ ¬ 1000000 < v)) : KT l yX8_row wsX8_row 1 20 0 0 E [(mo, .inr (9, mOb ad th (nI kn) (nI rn) (nI mn) (nI dp))), (ad 10, aI E 24 (am 10)), (ad 11, aI E 24 (am 11)), (ad 14, aJ E 24 (al 14)), (ad 8, aI E 240 (am 8)), (ad 9, aI E 240 (am 9))] [(ad 6, aI E 10 (am 6)), (ad 7, aI E 10 (am 7))] [.ref mo, .int (nI j), .int v, .long u] (QI E (pX8_row E mo ad th kn rn mn dp am al j v u)) := by
  refine KT.start (cc := cX8_row) (maxL := 6) (ret := (some .int)) (by decide) rfl (Nat.le_of_ble_eq_true rfl) ?_
  intro p e s m below meth c A H hx hb hr hlocks hml hts hown hin hP hR0 hD hap hev hz hA hS ls hl
  have hl : lv_has ls 6 [(0, .ref mo), (1, .int (nI j)), (2, .int v), (3, .long u)] := hl
  have hiX8 : ∀ w ∈ wsX80, w ∈ wsX8_row := fun _ h => List.mem_cons_of_mem _ (List.mem_append_right _ h)
  have hf192 := hts (.fieldLink RX8 192 "SignQuorumModel" "thrown" "I") (by decide +kernel)
  have hf199 := hts (.fieldLink RX8 199 "SignQuorumModel" "rows" "I") (by decide +kernel)
  have hf20 := hts (.fieldLink RX8 20 "SignQuorumModel" "draftQuorum" "[I") (by decide +kernel)
  have hf24 := hts (.fieldLink RX8 24 "SignQuorumModel" "draftSet" "[I") (by decide +kernel)
  have hf27 := hts (.fieldLink RX8 27 "SignQuorumModel" "quorums" "[I") (by decide +kernel)
  have hf30 := hts (.fieldLink RX8 30 "SignQuorumModel" "sets" "[I") (by decide +kernel)
  have hf33 := hts (.fieldLink RX8 33 "SignQuorumModel" "kind" "[I") (by decide +kernel)
  have hf36 := hts (.fieldLink RX8 36 "SignQuorumModel" "version" "[I") (by decide +kernel)
  have hf45 := hts (.fieldLink RX8 45 "SignQuorumModel" "until" "[J") (by decide +kernel)
  have hk250 := hts (.constant RX8 250 (1000000)) (by decide +kernel)
  refine lv_aload_n hx hb dX8_row_0 rfl (lv_at hl 0 rfl) ?_
  refine lv_iconst (v := 0) hx hb dX8_row_1 (by decide) ?_
  refine xpt TX8_0 (v := 0) hx hb hts hiX8 hown hev.1 hP hD hS 0 rfl (by decide) hf192 (Nat.le_of_ble_eq_true rfl) dX8_row_2 (fun H locs hP hD hS => ?_)
  have hP : va_P E.1 vwCl [(mo, .inr (9, mOb ad 0 (nI kn) (nI rn) (nI mn) (nI dp))), (ad 10, aI E 24 (am 10)), (ad 11, aI E 24 (am 11)), (ad 14, aJ E 24 (al 14)), (ad 8, aI E 240 (am 8)), (ad 9, aI E 240 (am 9))] H := hP
  have hD : va_D A [(mo, .inr (9, mOb ad 0 (nI kn) (nI rn) (nI mn) (nI dp))), (ad 10, aI E 24 (am 10)), (ad 11, aI E 24 (am 11)), (ad 14, aJ E 24 (al 14)), (ad 8, aI E 240 (am 8)), (ad 9, aI E 240 (am 9))] := hD
  refine lv_iload_n hx hb dX8_row_5 rfl (lv_at hl 1 rfl) ?_
  have hP := hP.sub (ws' := [] ++ [(mo, .inr (9, mOb ad 0 (nI kn) (nI rn) (nI mn) (nI dp))), (ad 10, aI E 24 (am 10)), (ad 11, aI E 24 (am 11)), (ad 14, aJ E 24 (al 14)), (ad 8, aI E 240 (am 8)), (ad 9, aI E 240 (am 9))]) [0, 1, 2, 3, 4, 5] rfl
  have hD := hD.sub (ws' := [] ++ [(mo, .inr (9, mOb ad 0 (nI kn) (nI rn) (nI mn) (nI dp))), (ad 10, aI E 24 (am 10)), (ad 11, aI E 24 (am 11)), (ad 14, aJ E 24 (al 14)), (ad 8, aI E 240 (am 8)), (ad 9, aI E 240 (am 9))]) [0, 1, 2, 3, 4, 5] (by decide) rfl
  refine xci (va_runS (As := [.int (nI j)]) (rest := []) ⟨hx, hb, hml, hown, hts⟩ (kX8_isRole l E (nI j)  H.size) (va_cwS 1 hts gX8_row_X8_isRole rfl rfl rfl (by decide +kernel) ⟨Nat.le_of_ble_eq_true rfl, Nat.le_of_ble_eq_true rfl⟩) ⟨CP.blind, (xpre hev hz hA hP hD hS hR0 hap [] rfl)⟩ rfl rfl hl.1 rfl (lv_room (Nat.le_of_ble_eq_true rfl)) dX8_row_6 ⟨Nat.le_of_ble_eq_true rfl, Nat.le_of_ble_eq_true rfl⟩) hP hD hS hA (fun r1 w2 H locs h3 hP hD hS => ?_)
  obtain ⟨rfl, rfl, h3⟩ := h3
  try dsimp only at h3
  have hP : va_P E.1 vwCl [(mo, .inr (9, mOb ad 0 (nI kn) (nI rn) (nI mn) (nI dp))), (ad 10, aI E 24 (am 10)), (ad 11, aI E 24 (am 11)), (ad 14, aJ E 24 (al 14)), (ad 8, aI E 240 (am 8)), (ad 9, aI E 240 (am 9))] H := hP
  have hD : va_D A [(mo, .inr (9, mOb ad 0 (nI kn) (nI rn) (nI mn) (nI dp))), (ad 10, aI E 24 (am 10)), (ad 11, aI E 24 (am 11)), (ad 14, aJ E 24 (al 14)), (ad 8, aI E 240 (am 8)), (ad 9, aI E 240 (am 9))] := hD
  refine lv_if_eq (tgt := 32) hx hb dX8_row_9 (by decide) (fun c4 => absurd c4 (b1_n.mpr (⟨j, hj, rfl⟩))) (fun c4 => ?_)
  refine lv_iload_n hx hb dX8_row_12 rfl (lv_at hl 2 rfl) ?_
  refine lv_iconst (v := 1) hx hb dX8_row_13 (by decide) ?_
  refine lv_icmp_lt (tgt := 32) hx hb dX8_row_14 (by decide) (fun c5 => absurd c5 (hv.1)) (fun c5 => ?_)
  refine lv_iload_n hx hb dX8_row_17 rfl (lv_at hl 2 rfl) ?_
  refine lv_ldc hx hb hown hk250 dX8_row_18 ?_
  refine lv_icmp_gt (tgt := 32) hx hb dX8_row_20 (by decide) (fun c6 => absurd c6 (hv.2)) (fun c6 => ?_)
  refine lv_aload_n hx hb dX8_row_23 rfl (lv_at hl 0 rfl) ?_
  refine xgt TX8_2 (v := .int (nI rn)) hx hb hts hiX8 hown hev.1 hP 0 rfl (by decide) hf199 rfl dX8_row_24 ?_
  refine lv_bipush (v := 24) hx hb dX8_row_27 (by decide) ?_
  refine lv_icmp_ne (tgt := 34) hx hb dX8_row_29 (by decide) (fun c7 => ?_) (fun c7 => absurd c7 (fun h9 => absurd ((nI_eq (a := rn) (b := 24) (by omega) (by omega)).mp h9) (by omega)))
  refine lv_aload_n hx hb dX8_row_34 rfl (lv_at hl 0 rfl) ?_
  refine xgt TX8_10 (v := .ref (ad 10)) hx hb hts hiX8 hown hev.1 hP 0 rfl (by decide) hf33 rfl dX8_row_35 ?_
  refine lv_aload_n hx hb dX8_row_38 rfl (lv_at hl 0 rfl) ?_
  refine xgt TX8_2 (v := .int (nI rn)) hx hb hts hiX8 hown hev.1 hP 0 rfl (by decide) hf199 rfl dX8_row_39 ?_
  refine lv_iload_n hx hb dX8_row_42 rfl (lv_at hl 1 rfl) ?_
  refine xiast (k := rn) hx hb hev.1 hP hD hS 1 1 rfl rfl (by omega) (by decide) dX8_row_43 (fun H locs hP hD hS => ?_)
  obtain ⟨f8, ef8⟩ : ∃ y9_ : Nat → Int32, y9_ = upd (am 10) rn (nI j) := ⟨_, rfl⟩
  rw [← ef8] at hP hD
  have hP : va_P E.1 vwCl [(mo, .inr (9, mOb ad 0 (nI kn) (nI rn) (nI mn) (nI dp))), (ad 10, aI E 24 f8), (ad 11, aI E 24 (am 11)), (ad 14, aJ E 24 (al 14)), (ad 8, aI E 240 (am 8)), (ad 9, aI E 240 (am 9))] H := hP
  have hD : va_D A [(mo, .inr (9, mOb ad 0 (nI kn) (nI rn) (nI mn) (nI dp))), (ad 10, aI E 24 f8), (ad 11, aI E 24 (am 11)), (ad 14, aJ E 24 (al 14)), (ad 8, aI E 240 (am 8)), (ad 9, aI E 240 (am 9))] := hD
  refine lv_aload_n hx hb dX8_row_44 rfl (lv_at hl 0 rfl) ?_
  refine xgt TX8_11 (v := .ref (ad 11)) hx hb hts hiX8 hown hev.1 hP 0 rfl (by decide) hf36 rfl dX8_row_45 ?_
  refine lv_aload_n hx hb dX8_row_48 rfl (lv_at hl 0 rfl) ?_
  refine xgt TX8_2 (v := .int (nI rn)) hx hb hts hiX8 hown hev.1 hP 0 rfl (by decide) hf199 rfl dX8_row_49 ?_
  refine lv_iload_n hx hb dX8_row_52 rfl (lv_at hl 2 rfl) ?_
  refine xiast (k := rn) hx hb hev.1 hP hD hS 2 1 rfl rfl (by omega) (by decide) dX8_row_53 (fun H locs hP hD hS => ?_)
  obtain ⟨f9, ef9⟩ : ∃ y9_ : Nat → Int32, y9_ = upd (am 11) rn v := ⟨_, rfl⟩
  rw [← ef9] at hP hD
  have hP : va_P E.1 vwCl [(mo, .inr (9, mOb ad 0 (nI kn) (nI rn) (nI mn) (nI dp))), (ad 10, aI E 24 f8), (ad 11, aI E 24 f9), (ad 14, aJ E 24 (al 14)), (ad 8, aI E 240 (am 8)), (ad 9, aI E 240 (am 9))] H := hP
  have hD : va_D A [(mo, .inr (9, mOb ad 0 (nI kn) (nI rn) (nI mn) (nI dp))), (ad 10, aI E 24 f8), (ad 11, aI E 24 f9), (ad 14, aJ E 24 (al 14)), (ad 8, aI E 240 (am 8)), (ad 9, aI E 240 (am 9))] := hD
  refine lv_aload_n hx hb dX8_row_54 rfl (lv_at hl 0 rfl) ?_
  refine xgt TX8_14 (v := .ref (ad 14)) hx hb hts hiX8 hown hev.1 hP 0 rfl (by decide) hf45 rfl dX8_row_55 ?_
  refine lv_aload_n hx hb dX8_row_58 rfl (lv_at hl 0 rfl) ?_
  refine xgt TX8_2 (v := .int (nI rn)) hx hb hts hiX8 hown hev.1 hP 0 rfl (by decide) hf199 rfl dX8_row_59 ?_
  refine lv_lload_n hx hb dX8_row_62 rfl (lv_at hl 3 rfl) ?_
  refine xlast (k := rn) hx hb hev.1 hP hD hS 3 2 rfl rfl (by omega) (by decide) dX8_row_63 (fun H locs hP hD hS => ?_)
  obtain ⟨f10, ef10⟩ : ∃ y9_ : Nat → Int64, y9_ = vp_updL (al 14) rn u := ⟨_, rfl⟩
  rw [← ef10] at hP hD
  have hP : va_P E.1 vwCl [(mo, .inr (9, mOb ad 0 (nI kn) (nI rn) (nI mn) (nI dp))), (ad 10, aI E 24 f8), (ad 11, aI E 24 f9), (ad 14, aJ E 24 f10), (ad 8, aI E 240 (am 8)), (ad 9, aI E 240 (am 9))] H := hP
  have hD : va_D A [(mo, .inr (9, mOb ad 0 (nI kn) (nI rn) (nI mn) (nI dp))), (ad 10, aI E 24 f8), (ad 11, aI E 24 f9), (ad 14, aJ E 24 f10), (ad 8, aI E 240 (am 8)), (ad 9, aI E 240 (am 9))] := hD
  refine lv_iconst (v := 0) hx hb dX8_row_64 (by decide) ?_
  refine lv_istore (lv' := [(5, .int 0), (0, .ref mo), (1, .int (nI j)), (2, .int v), (3, .long u)]) hx hb dX8_row_65 hl (by decide) rfl (fun ls hl => ?_)
  have loop67 : ∀ (fz67 : Nat) (k : Nat) (b8 : Nat → Int32) (b9 : Nat → Int32), (k ≤ 10) → ((∀ i, i < k → b8 (10 * rn + i) = am 6 i ∧ b9 (10 * rn + i) = am 7 i) ∧ ∀ i, i < 10 * rn → b8 i = am 8 i ∧ b9 i = am 9 i) → (10 - k < fz67) → ∀ (H : Heap) (locs : List Loc), va_P E.1 vwCl [(mo, .inr (9, mOb ad 0 (nI kn) (nI rn) (nI mn) (nI dp))), (ad 10, aI E 24 f8), (ad 11, aI E 24 f9), (ad 14, aJ E 24 f10), (ad 8, aI E 240 b8), (ad 9, aI E 240 b9)] H → va_D A [(mo, .inr (9, mOb ad 0 (nI kn) (nI rn) (nI mn) (nI dp))), (ad 10, aI E 24 f8), (ad 11, aI E 24 f9), (ad 14, aJ E 24 f10), (ad 8, aI E 240 b8), (ad 9, aI E 240 b9)] → va_S A s.heap H locs → ∀ ls : Array Slot, lv_has ls 6 [(5, .int (nI k)), (0, .ref mo)] → W p l e ({ frames := 1, cells := 0, slots := 0, locals := 20 } : Room) s m ([.ref mo, .int (nI j), .int v, .long u] : List Value).toArray below meth c H locs 0 0 (MQ below (QI E (pX8_row E mo ad th kn rn mn dp am al j v u) A) ([.ref mo, .int (nI j), .int v, .long u] : List Value).toArray s 0 0 A) (F0 m 67 ls []) := by
    intro fz67
    induction fz67 with
    | zero =>
      intro k b8 b9 hk hb8 hfuel
      exact absurd hfuel (by omega)
    | succ fz67 ih67 =>
      intro k b8 b9 hk hb8 hfuel H locs hP hD hS ls hl
      refine lv_iload hx hb dX8_row_67 (lv_at hl 0 rfl) ?_
      refine lv_bipush (v := 10) hx hb dX8_row_69 (by decide) ?_
      refine lv_icmp_ge (tgt := 124) hx hb dX8_row_71 (by decide) (fun c11 => ?_) (fun c11 => ?_)
      · skip
        have kc11 : 10 ≤ k := (nI_leI (a := 10) (b := k) (by omega) (by omega)).mp c11
        refine lv_aload_n hx hb dX8_row_124 rfl (lv_at hl 1 rfl) ?_
        refine lv_dup hx hb dX8_row_125 rfl ?_
        refine xgt TX8_2 (v := .int (nI rn)) hx hb hts hiX8 hown hev.1 hP 0 rfl (by decide) hf199 rfl dX8_row_126 ?_
        refine lv_iconst (v := 1) hx hb dX8_row_129 (by decide) ?_
        refine lv_iadd hx hb dX8_row_130 ?_
        refine xtop (y := nI (rn + 1)) ((nI_add rn 1).trans (congrArg nI (by omega))) ?_
        refine xpt TX8_2 (v := (nI (rn + 1))) hx hb hts hiX8 hown hev.1 hP hD hS 0 rfl (by decide) hf199 (Nat.le_of_ble_eq_true rfl) dX8_row_131 (fun H locs hP hD hS => ?_)
        have hP : va_P E.1 vwCl [(mo, .inr (9, mOb ad 0 (nI kn) (nI (rn + 1)) (nI mn) (nI dp))), (ad 10, aI E 24 f8), (ad 11, aI E 24 f9), (ad 14, aJ E 24 f10), (ad 8, aI E 240 b8), (ad 9, aI E 240 b9)] H := hP
        have hD : va_D A [(mo, .inr (9, mOb ad 0 (nI kn) (nI (rn + 1)) (nI mn) (nI dp))), (ad 10, aI E 24 f8), (ad 11, aI E 24 f9), (ad 14, aJ E 24 f10), (ad 8, aI E 240 b8), (ad 9, aI E 240 b9)] := hD
        refine lv_aload_n hx hb dX8_row_134 rfl (lv_at hl 1 rfl) ?_
        refine xgt TX8_2 (v := .int (nI (rn + 1))) hx hb hts hiX8 hown hev.1 hP 0 rfl (by decide) hf199 rfl dX8_row_135 ?_
        refine lv_iconst (v := 1) hx hb dX8_row_138 (by decide) ?_
        refine lv_isub hx hb dX8_row_139 ?_
        refine xtop (y := nI ((rn + 1) - 1)) (pk_sub (a := (rn + 1)) (b := 1) (by omega)) ?_
        refine xtop (y := nI rn) (congrArg nI (by omega)) ?_
        refine xri hx hb hr hlocks hP hD hS ⟨f8, f9, f10, b8, b9, rfl, ?_, ?_⟩ dX8_row_140
        · rfl
        · exact ⟨by assumption, by assumption, by assumption, fun i hi => hb8.1 i (by omega), hb8.2⟩
      · skip
        have kc11 : ¬ 10 ≤ k := fun h9 => c11 ((nI_leI (a := 10) (b := k) (by omega) (by omega)).mpr h9)
        refine lv_aload_n hx hb dX8_row_74 rfl (lv_at hl 1 rfl) ?_
        refine xgt TX8_8 (v := .ref (ad 8)) hx hb hts hiX8 hown hev.1 hP 0 rfl (by decide) hf27 rfl dX8_row_75 ?_
        refine lv_bipush (v := 10) hx hb dX8_row_78 (by decide) ?_
        refine lv_aload_n hx hb dX8_row_80 rfl (lv_at hl 1 rfl) ?_
        refine xgt TX8_2 (v := .int (nI rn)) hx hb hts hiX8 hown hev.1 hP 0 rfl (by decide) hf199 rfl dX8_row_81 ?_
        refine lv_imul hx hb dX8_row_84 ?_
        refine xtop (y := nI (10 * rn)) (pk_mul _ _) ?_
        refine lv_iload hx hb dX8_row_85 (lv_at hl 0 rfl) ?_
        refine lv_iadd hx hb dX8_row_87 ?_
        refine xtop (y := nI (10 * rn + k)) ((nI_add (10 * rn) k).trans (congrArg nI (by omega))) ?_
        refine lv_aload_n hx hb dX8_row_88 rfl (lv_at hl 1 rfl) ?_
        refine xgt TX8_6 (v := .ref (ad 6)) hx hb hts hiX8 hown hev.1 hP 0 rfl (by decide) hf20 rfl dX8_row_89 ?_
        refine lv_iload hx hb dX8_row_92 (lv_at hl 0 rfl) ?_
        refine xiald (k := (k)) hx hb hev.1 (xro hR0 hap hS) 0 1 rfl rfl (by omega) (by decide) dX8_row_94 ?_
        refine xiast (k := 10 * rn + k) hx hb hev.1 hP hD hS 4 1 rfl rfl (by omega) (by decide) dX8_row_95 (fun H locs hP hD hS => ?_)
        obtain ⟨f12, ef12⟩ : ∃ y9_ : Nat → Int32, y9_ = upd b8 (10 * rn + k) ((am 6) k) := ⟨_, rfl⟩
        rw [← ef12] at hP hD
        have hP : va_P E.1 vwCl [(mo, .inr (9, mOb ad 0 (nI kn) (nI rn) (nI mn) (nI dp))), (ad 10, aI E 24 f8), (ad 11, aI E 24 f9), (ad 14, aJ E 24 f10), (ad 8, aI E 240 f12), (ad 9, aI E 240 b9)] H := hP
        have hD : va_D A [(mo, .inr (9, mOb ad 0 (nI kn) (nI rn) (nI mn) (nI dp))), (ad 10, aI E 24 f8), (ad 11, aI E 24 f9), (ad 14, aJ E 24 f10), (ad 8, aI E 240 f12), (ad 9, aI E 240 b9)] := hD
        refine lv_aload_n hx hb dX8_row_96 rfl (lv_at hl 1 rfl) ?_
        refine xgt TX8_9 (v := .ref (ad 9)) hx hb hts hiX8 hown hev.1 hP 0 rfl (by decide) hf30 rfl dX8_row_97 ?_
        refine lv_bipush (v := 10) hx hb dX8_row_100 (by decide) ?_
        refine lv_aload_n hx hb dX8_row_102 rfl (lv_at hl 1 rfl) ?_
        refine xgt TX8_2 (v := .int (nI rn)) hx hb hts hiX8 hown hev.1 hP 0 rfl (by decide) hf199 rfl dX8_row_103 ?_
        refine lv_imul hx hb dX8_row_106 ?_
        refine xtop (y := nI (10 * rn)) (pk_mul _ _) ?_
        refine lv_iload hx hb dX8_row_107 (lv_at hl 0 rfl) ?_
        refine lv_iadd hx hb dX8_row_109 ?_
        refine xtop (y := nI (10 * rn + k)) ((nI_add (10 * rn) k).trans (congrArg nI (by omega))) ?_
        refine lv_aload_n hx hb dX8_row_110 rfl (lv_at hl 1 rfl) ?_
        refine xgt TX8_7 (v := .ref (ad 7)) hx hb hts hiX8 hown hev.1 hP 0 rfl (by decide) hf24 rfl dX8_row_111 ?_
        refine lv_iload hx hb dX8_row_114 (lv_at hl 0 rfl) ?_
        refine xiald (k := (k)) hx hb hev.1 (xro hR0 hap hS) 1 1 rfl rfl (by omega) (by decide) dX8_row_116 ?_
        refine xiast (k := 10 * rn + k) hx hb hev.1 hP hD hS 5 1 rfl rfl (by omega) (by decide) dX8_row_117 (fun H locs hP hD hS => ?_)
        obtain ⟨f13, ef13⟩ : ∃ y9_ : Nat → Int32, y9_ = upd b9 (10 * rn + k) ((am 7) k) := ⟨_, rfl⟩
        rw [← ef13] at hP hD
        have hP : va_P E.1 vwCl [(mo, .inr (9, mOb ad 0 (nI kn) (nI rn) (nI mn) (nI dp))), (ad 10, aI E 24 f8), (ad 11, aI E 24 f9), (ad 14, aJ E 24 f10), (ad 8, aI E 240 f12), (ad 9, aI E 240 f13)] H := hP
        have hD : va_D A [(mo, .inr (9, mOb ad 0 (nI kn) (nI rn) (nI mn) (nI dp))), (ad 10, aI E 24 f8), (ad 11, aI E 24 f9), (ad 14, aJ E 24 f10), (ad 8, aI E 240 f12), (ad 9, aI E 240 f13)] := hD
        refine lv_iinc (v := nI (k + 1)) (lv' := [(5, .int (nI (k + 1))), (0, .ref mo)]) hx hb dX8_row_118 hl (k := 0) rfl ((nI_add k 1).trans (congrArg nI (by omega))) (by decide) rfl (fun ls hl => ?_)
        refine lv_goto (tgt := 67) hx hb dX8_row_121 (by decide) ?_
        exact ih67  (k + 1) f12 f13 (by omega) (⟨lt_s (fun i hi => by rw [ef12, ef13, upd_ne (by omega), upd_ne (by omega)]; exact hb8.1 i hi) (by rw [ef12, ef13, upd_self, upd_self]; exact ⟨rfl, rfl⟩), fun i hi => by rw [ef12, ef13, upd_ne (by omega), upd_ne (by omega)]; exact hb8.2 i hi⟩) (by omega) _ _ hP hD hS ls (lv_sub hl [0, 1] rfl)
  exact loop67 11 0 (am 8) (am 9) (by omega) (⟨fun _ h9 => absurd h9 (by omega), fun _ _ => ⟨rfl, rfl⟩⟩) (by omega) _ _ hP hD hS ls (lv_sub hl [0, 1] rfl)

abbrev pX8_rowN (E : xE) (mo : Nat) (ad : Nat → Nat) (th : Int32) (kn : Nat) (rn : Nat) (mn : Nat) (dp : Nat) (am : Nat → Nat → Int32) (al : Nat → Nat → Int64) (y : Int32) (v : Int32) (u : Int64) (r : Int32) (w : va_W) : Prop := w = [(mo, .inr (9, mOb ad 0 (nI kn) (nI rn) (nI mn) (nI dp)))] ∧ r = -1 ∧ (True)
set_option maxHeartbeats 4000000 in
set_option maxRecDepth 100000 in
theorem kX8_rowN (l : Launch) (E : xE) (mo : Nat) (ad : Nat → Nat) (th : Int32) (kn : Nat) (rn : Nat) (mn : Nat) (dp : Nat) (am : Nat → Nat → Int32) (al : Nat → Nat → Int64) (y : Int32) (v : Int32) (u : Int64) (hrn : rn ≤ 24) (hno : ¬ (isN y 10 ∧ (¬ v < 1 ∧ ¬ 1000000 < v) ∧ rn < 24)) : KT l yX8_row wsX8_row 1 20 0 0 E [(mo, .inr (9, mOb ad th (nI kn) (nI rn) (nI mn) (nI dp)))] [] [.ref mo, .int y, .int v, .long u] (QI E (pX8_rowN E mo ad th kn rn mn dp am al y v u)) := by
  refine KT.start (cc := cX8_row) (maxL := 6) (ret := (some .int)) (by decide) rfl (Nat.le_of_ble_eq_true rfl) ?_
  intro p e s m below meth c A H hx hb hr hlocks hml hts hown hin hP hR0 hD hap hev hz hA hS ls hl
  have hl : lv_has ls 6 [(0, .ref mo), (1, .int y), (2, .int v), (3, .long u)] := hl
  have hiX8 : ∀ w ∈ wsX80, w ∈ wsX8_row := fun _ h => List.mem_cons_of_mem _ (List.mem_append_right _ h)
  have hf192 := hts (.fieldLink RX8 192 "SignQuorumModel" "thrown" "I") (by decide +kernel)
  have hf199 := hts (.fieldLink RX8 199 "SignQuorumModel" "rows" "I") (by decide +kernel)
  have hk250 := hts (.constant RX8 250 (1000000)) (by decide +kernel)
  refine lv_aload_n hx hb dX8_row_0 rfl (lv_at hl 0 rfl) ?_
  refine lv_iconst (v := 0) hx hb dX8_row_1 (by decide) ?_
  refine xpt TX8_0 (v := 0) hx hb hts hiX8 hown hev.1 hP hD hS 0 rfl (by decide) hf192 (Nat.le_of_ble_eq_true rfl) dX8_row_2 (fun H locs hP hD hS => ?_)
  have hP : va_P E.1 vwCl [(mo, .inr (9, mOb ad 0 (nI kn) (nI rn) (nI mn) (nI dp)))] H := hP
  have hD : va_D A [(mo, .inr (9, mOb ad 0 (nI kn) (nI rn) (nI mn) (nI dp)))] := hD
  refine lv_iload_n hx hb dX8_row_5 rfl (lv_at hl 1 rfl) ?_
  have hP := hP.sub (ws' := [] ++ [(mo, .inr (9, mOb ad 0 (nI kn) (nI rn) (nI mn) (nI dp)))]) [0] rfl
  have hD := hD.sub (ws' := [] ++ [(mo, .inr (9, mOb ad 0 (nI kn) (nI rn) (nI mn) (nI dp)))]) [0] (by decide) rfl
  refine xci (va_runS (As := [.int y]) (rest := []) ⟨hx, hb, hml, hown, hts⟩ (kX8_isRole l E y  H.size) (va_cwS 1 hts gX8_row_X8_isRole rfl rfl rfl (by decide +kernel) ⟨Nat.le_of_ble_eq_true rfl, Nat.le_of_ble_eq_true rfl⟩) ⟨CP.blind, (xpre hev hz hA hP hD hS hR0 hap [] rfl)⟩ rfl rfl hl.1 rfl (lv_room (Nat.le_of_ble_eq_true rfl)) dX8_row_6 ⟨Nat.le_of_ble_eq_true rfl, Nat.le_of_ble_eq_true rfl⟩) hP hD hS hA (fun r1 w2 H locs h3 hP hD hS => ?_)
  obtain ⟨rfl, rfl, h3⟩ := h3
  try dsimp only at h3
  have hP : va_P E.1 vwCl [(mo, .inr (9, mOb ad 0 (nI kn) (nI rn) (nI mn) (nI dp)))] H := hP
  have hD : va_D A [(mo, .inr (9, mOb ad 0 (nI kn) (nI rn) (nI mn) (nI dp)))] := hD
  refine lv_if_eq (tgt := 32) hx hb dX8_row_9 (by decide) (fun c4 => ?_) (fun c4 => ?_)
  · skip
    have kc4 := b1_0.mp c4
    refine lv_iconst (v := (-1)) hx hb dX8_row_32 (by decide) ?_
    refine xri hx hb hr hlocks hP hD hS ⟨rfl, ?_, ?_⟩ dX8_row_33
    · rfl
    · trivial
  · skip
    have kc4 := b1_n.mp c4
    refine lv_iload_n hx hb dX8_row_12 rfl (lv_at hl 2 rfl) ?_
    refine lv_iconst (v := 1) hx hb dX8_row_13 (by decide) ?_
    refine lv_icmp_lt (tgt := 32) hx hb dX8_row_14 (by decide) (fun c5 => ?_) (fun c5 => ?_)
    · skip
      refine lv_iconst (v := (-1)) hx hb dX8_row_32 (by decide) ?_
      refine xri hx hb hr hlocks hP hD hS ⟨rfl, ?_, ?_⟩ dX8_row_33
      · rfl
      · trivial
    · skip
      refine lv_iload_n hx hb dX8_row_17 rfl (lv_at hl 2 rfl) ?_
      refine lv_ldc hx hb hown hk250 dX8_row_18 ?_
      refine lv_icmp_gt (tgt := 32) hx hb dX8_row_20 (by decide) (fun c6 => ?_) (fun c6 => ?_)
      · skip
        refine lv_iconst (v := (-1)) hx hb dX8_row_32 (by decide) ?_
        refine xri hx hb hr hlocks hP hD hS ⟨rfl, ?_, ?_⟩ dX8_row_33
        · rfl
        · trivial
      · skip
        refine lv_aload_n hx hb dX8_row_23 rfl (lv_at hl 0 rfl) ?_
        refine xgt TX8_2 (v := .int (nI rn)) hx hb hts hiX8 hown hev.1 hP 0 rfl (by decide) hf199 rfl dX8_row_24 ?_
        refine lv_bipush (v := 24) hx hb dX8_row_27 (by decide) ?_
        refine lv_icmp_ne (tgt := 34) hx hb dX8_row_29 (by decide) (fun c7 => ?_) (fun c7 => ?_)
        · skip
          have kc7 : ¬ rn = 24 := fun h9 => c7 ((nI_eq (a := rn) (b := 24) (by omega) (by omega)).mpr h9)
          exact absurd ⟨kc4, ⟨c5, c6⟩, by omega⟩ hno
        · skip
          have kc7 : rn = 24 := (nI_eq (a := rn) (b := 24) (by omega) (by omega)).mp c7
          refine lv_iconst (v := (-1)) hx hb dX8_row_32 (by decide) ?_
          refine xri hx hb hr hlocks hP hD hS ⟨rfl, ?_, ?_⟩ dX8_row_33
          · rfl
          · trivial

abbrev pX8_octet (E : xE) (mo : Nat) (ad : Nat → Nat) (th : Int32) (kn : Nat) (rn : Nat) (mn : Nat) (dp : Nat) (am : Nat → Nat → Int32) (al : Nat → Nat → Int64) (pq : Nat → Nat → Nat) (y : Int32) (b : Int32) (r : Int32) (w : va_W) : Prop := ∃ (g12 : Nat → Int32) (g13 : Nat → Int32), w = [(mo, .inr (9, mOb ad 0 (nI kn) (nI rn) (nI mn) (nI dp))), (ad 12, aI E 24 g12), (ad 13, aI E 384 g13)] ∧ ((∃ i, i < rn ∧ y = nI i ∧ am 24 i = 0 ∧ pq i 12 < 16 ∧ r = nI (pq i 12 + 1) ∧ g12 = upd (am 12) i (nI (pq i 12 + 1)) ∧ g13 = upd (am 13) (16 * i + pq i 12) (b &&& 255)) ∨ (¬ (∃ i, i < rn ∧ y = nI i ∧ am 24 i = 0 ∧ pq i 12 < 16) ∧ r = -1 ∧ g12 = am 12 ∧ g13 = am 13))
set_option maxHeartbeats 4000000 in
set_option maxRecDepth 100000 in
theorem kX8_octet (l : Launch) (E : xE) (mo : Nat) (ad : Nat → Nat) (th : Int32) (kn : Nat) (rn : Nat) (mn : Nat) (dp : Nat) (am : Nat → Nat → Int32) (al : Nat → Nat → Int64) (pq : Nat → Nat → Nat) (y : Int32) (b : Int32) (hmk : mOk rn am pq) (hrn : rn ≤ 24) : KT l yX8_octet wsX8_octet 2 42 0 0 E [(mo, .inr (9, mOb ad th (nI kn) (nI rn) (nI mn) (nI dp))), (ad 12, aI E 24 (am 12)), (ad 13, aI E 384 (am 13))] [(ad 24, aI E 24 (am 24))] [.ref mo, .int y, .int b] (QI E (pX8_octet E mo ad th kn rn mn dp am al pq y b)) := by
  refine KT.start (cc := cX8_octet) (maxL := 3) (ret := (some .int)) (by decide) rfl (Nat.le_of_ble_eq_true rfl) ?_
  intro p e s m below meth c A H hx hb hr hlocks hml hts hown hin hP hR0 hD hap hev hz hA hS ls hl
  have hl : lv_has ls 3 [(0, .ref mo), (1, .int y), (2, .int b)] := hl
  have hiX8 : ∀ w ∈ wsX80, w ∈ wsX8_octet := fun _ h => List.mem_cons_of_mem _ (List.mem_append_right _ h)
  have hf192 := hts (.fieldLink RX8 192 "SignQuorumModel" "thrown" "I") (by decide +kernel)
  have hf39 := hts (.fieldLink RX8 39 "SignQuorumModel" "octets" "[I") (by decide +kernel)
  have hf42 := hts (.fieldLink RX8 42 "SignQuorumModel" "octet" "[I") (by decide +kernel)
  refine lv_aload_n hx hb dX8_octet_0 rfl (lv_at hl 0 rfl) ?_
  refine lv_iconst (v := 0) hx hb dX8_octet_1 (by decide) ?_
  refine xpt TX8_0 (v := 0) hx hb hts hiX8 hown hev.1 hP hD hS 0 rfl (by decide) hf192 (Nat.le_of_ble_eq_true rfl) dX8_octet_2 (fun H locs hP hD hS => ?_)
  have hP : va_P E.1 vwCl [(mo, .inr (9, mOb ad 0 (nI kn) (nI rn) (nI mn) (nI dp))), (ad 12, aI E 24 (am 12)), (ad 13, aI E 384 (am 13))] H := hP
  have hD : va_D A [(mo, .inr (9, mOb ad 0 (nI kn) (nI rn) (nI mn) (nI dp))), (ad 12, aI E 24 (am 12)), (ad 13, aI E 384 (am 13))] := hD
  refine lv_aload_n hx hb dX8_octet_5 rfl (lv_at hl 0 rfl) ?_
  refine lv_iload_n hx hb dX8_octet_6 rfl (lv_at hl 1 rfl) ?_
  have hP := hP.sub (ws' := [] ++ [(mo, .inr (9, mOb ad 0 (nI kn) (nI rn) (nI mn) (nI dp))), (ad 12, aI E 24 (am 12)), (ad 13, aI E 384 (am 13))]) [0, 1, 2] rfl
  have hD := hD.sub (ws' := [] ++ [(mo, .inr (9, mOb ad 0 (nI kn) (nI rn) (nI mn) (nI dp))), (ad 12, aI E 24 (am 12)), (ad 13, aI E 384 (am 13))]) [0, 1, 2] (by decide) rfl
  refine xci (va_runV (As := [.int y]) (rest := []) ⟨hx, hb, hml, hown, hts⟩ (kX8_isOpen l E mo ad 0 kn rn mn dp (am 24) y (by first | assumption | omega) H.size) (cwV 1 hts gX8_octet_X8_isOpen rfl rfl rfl (by decide +kernel) ⟨Nat.le_of_ble_eq_true rfl, Nat.le_of_ble_eq_true rfl⟩) ⟨CP.blind, (va_recv hev.1 hP (ci := 9) (q0 := 0) rfl rfl), (xpre hev hz hA hP hD hS hR0 hap [0, 3] rfl)⟩ rfl rfl hl.1 rfl (lv_room (Nat.le_of_ble_eq_true rfl)) dX8_octet_7 ⟨Nat.le_of_ble_eq_true rfl, Nat.le_of_ble_eq_true rfl⟩) hP hD hS hA (fun r1 w2 H locs h3 hP hD hS => ?_)
  obtain ⟨rfl, rfl, h3⟩ := h3
  try dsimp only at h3
  have hP : va_P E.1 vwCl [(mo, .inr (9, mOb ad 0 (nI kn) (nI rn) (nI mn) (nI dp))), (ad 12, aI E 24 (am 12)), (ad 13, aI E 384 (am 13))] H := hP
  have hD : va_D A [(mo, .inr (9, mOb ad 0 (nI kn) (nI rn) (nI mn) (nI dp))), (ad 12, aI E 24 (am 12)), (ad 13, aI E 384 (am 13))] := hD
  refine lv_if_eq (tgt := 24) hx hb dX8_octet_10 (by decide) (fun c4 => ?_) (fun c4 => ?_)
  · skip
    have kc4 := b1_0.mp c4
    refine lv_iconst (v := (-1)) hx hb dX8_octet_24 (by decide) ?_
    refine xri hx hb hr hlocks hP hD hS ⟨(am 12), (am 13), rfl, ?_⟩ dX8_octet_25
    exact Or.inr ⟨fun ⟨i9, h1, h2, h3, _⟩ => kc4 ⟨i9, h1, h2, h3⟩, rfl, rfl, rfl⟩
  · skip
    have kc4 := b1_n.mp c4
    obtain ⟨i, hi, rfl, hopen⟩ := kc4
    obtain ⟨h10, h12, h15, h18, h22, h24, hb10, hb12, hb15, hb18, hb22, hb24⟩ := hmk i (hi)
    refine lv_aload_n hx hb dX8_octet_13 rfl (lv_at hl 0 rfl) ?_
    refine xgt TX8_12 (v := .ref (ad 12)) hx hb hts hiX8 hown hev.1 hP 0 rfl (by decide) hf39 rfl dX8_octet_14 ?_
    refine lv_iload_n hx hb dX8_octet_17 rfl (lv_at hl 1 rfl) ?_
    refine xiald (k := (i)) hx hb hev.1 hP 1 1 rfl rfl (by omega) (by decide) dX8_octet_18 ?_
    refine xtop (y := nI (pq i 12)) (h12) ?_
    refine lv_bipush (v := 16) hx hb dX8_octet_19 (by decide) ?_
    refine lv_icmp_ne (tgt := 26) hx hb dX8_octet_21 (by decide) (fun c5 => ?_) (fun c5 => ?_)
    · skip
      have kc5 : ¬ (pq i 12) = 16 := fun h9 => c5 ((nI_eq (a := (pq i 12)) (b := 16) (by omega) (by omega)).mpr h9)
      refine lv_aload_n hx hb dX8_octet_26 rfl (lv_at hl 0 rfl) ?_
      refine xgt TX8_13 (v := .ref (ad 13)) hx hb hts hiX8 hown hev.1 hP 0 rfl (by decide) hf42 rfl dX8_octet_27 ?_
      refine lv_bipush (v := 16) hx hb dX8_octet_30 (by decide) ?_
      refine lv_iload_n hx hb dX8_octet_32 rfl (lv_at hl 1 rfl) ?_
      refine lv_imul hx hb dX8_octet_33 ?_
      refine xtop (y := nI (16 * i)) (pk_mul _ _) ?_
      refine lv_aload_n hx hb dX8_octet_34 rfl (lv_at hl 0 rfl) ?_
      refine xgt TX8_12 (v := .ref (ad 12)) hx hb hts hiX8 hown hev.1 hP 0 rfl (by decide) hf39 rfl dX8_octet_35 ?_
      refine lv_iload_n hx hb dX8_octet_38 rfl (lv_at hl 1 rfl) ?_
      refine xiald (k := (i)) hx hb hev.1 hP 1 1 rfl rfl (by omega) (by decide) dX8_octet_39 ?_
      refine xtop (y := nI (pq i 12)) (h12) ?_
      refine lv_iadd hx hb dX8_octet_40 ?_
      refine xtop (y := nI (16 * i + (pq i 12))) ((nI_add (16 * i) (pq i 12)).trans (congrArg nI (by omega))) ?_
      refine lv_iload_n hx hb dX8_octet_41 rfl (lv_at hl 2 rfl) ?_
      refine lv_sipush (v := 255) hx hb dX8_octet_42 (by decide) ?_
      refine lv_iand hx hb dX8_octet_45 ?_
      refine xiast (k := 16 * i + (pq i 12)) hx hb hev.1 hP hD hS 2 1 rfl rfl (by omega) (by decide) dX8_octet_46 (fun H locs hP hD hS => ?_)
      obtain ⟨f6, ef6⟩ : ∃ y9_ : Nat → Int32, y9_ = upd (am 13) (16 * i + (pq i 12)) (b &&& 255) := ⟨_, rfl⟩
      rw [← ef6] at hP hD
      have hP : va_P E.1 vwCl [(mo, .inr (9, mOb ad 0 (nI kn) (nI rn) (nI mn) (nI dp))), (ad 12, aI E 24 (am 12)), (ad 13, aI E 384 f6)] H := hP
      have hD : va_D A [(mo, .inr (9, mOb ad 0 (nI kn) (nI rn) (nI mn) (nI dp))), (ad 12, aI E 24 (am 12)), (ad 13, aI E 384 f6)] := hD
      refine lv_aload_n hx hb dX8_octet_47 rfl (lv_at hl 0 rfl) ?_
      refine xgt TX8_12 (v := .ref (ad 12)) hx hb hts hiX8 hown hev.1 hP 0 rfl (by decide) hf39 rfl dX8_octet_48 ?_
      refine lv_iload_n hx hb dX8_octet_51 rfl (lv_at hl 1 rfl) ?_
      refine lv_dup2_11 hx hb dX8_octet_52 rfl rfl ?_
      refine xiald (k := (i)) hx hb hev.1 hP 1 1 rfl rfl (by omega) (by decide) dX8_octet_53 ?_
      refine xtop (y := nI (pq i 12)) (h12) ?_
      refine lv_iconst (v := 1) hx hb dX8_octet_54 (by decide) ?_
      refine lv_iadd hx hb dX8_octet_55 ?_
      refine xtop (y := nI (pq i 12 + 1)) ((nI_add (pq i 12) 1).trans (congrArg nI (by omega))) ?_
      refine xiast (k := i) hx hb hev.1 hP hD hS 1 1 rfl rfl (by omega) (by decide) dX8_octet_56 (fun H locs hP hD hS => ?_)
      obtain ⟨f7, ef7⟩ : ∃ y9_ : Nat → Int32, y9_ = upd (am 12) i (nI (pq i 12 + 1)) := ⟨_, rfl⟩
      rw [← ef7] at hP hD
      have hP : va_P E.1 vwCl [(mo, .inr (9, mOb ad 0 (nI kn) (nI rn) (nI mn) (nI dp))), (ad 12, aI E 24 f7), (ad 13, aI E 384 f6)] H := hP
      have hD : va_D A [(mo, .inr (9, mOb ad 0 (nI kn) (nI rn) (nI mn) (nI dp))), (ad 12, aI E 24 f7), (ad 13, aI E 384 f6)] := hD
      refine lv_aload_n hx hb dX8_octet_57 rfl (lv_at hl 0 rfl) ?_
      refine xgt TX8_12 (v := .ref (ad 12)) hx hb hts hiX8 hown hev.1 hP 0 rfl (by decide) hf39 rfl dX8_octet_58 ?_
      refine lv_iload_n hx hb dX8_octet_61 rfl (lv_at hl 1 rfl) ?_
      refine xiald (k := (i)) hx hb hev.1 hP 1 1 rfl rfl (by omega) (by decide) dX8_octet_62 ?_
      refine xtop (y := nI (pq i 12 + 1)) (by rw [ef7, upd_self]) ?_
      refine xri hx hb hr hlocks hP hD hS ⟨f7, f6, rfl, ?_⟩ dX8_octet_63
      exact Or.inl ⟨i, hi, rfl, hopen, by omega, rfl, by assumption, by subst_vars; rfl⟩
    · skip
      have kc5 : (pq i 12) = 16 := (nI_eq (a := (pq i 12)) (b := 16) (by omega) (by omega)).mp c5
      refine lv_iconst (v := (-1)) hx hb dX8_octet_24 (by decide) ?_
      refine xri hx hb hr hlocks hP hD hS ⟨(am 12), (am 13), rfl, ?_⟩ dX8_octet_25
      exact Or.inr ⟨(fun ⟨i9, h1, h2, h3, h4⟩ => by have e9 := (nI_eq (by omega) (by omega)).mp h2; subst e9; omega), rfl, rfl, rfl⟩

abbrev pX8_tells (E : xE) (mo : Nat) (ad : Nat → Nat) (th : Int32) (kn : Nat) (rn : Nat) (mn : Nat) (dp : Nat) (am : Nat → Nat → Int32) (al : Nat → Nat → Int64) (pq : Nat → Nat → Nat) (y : Int32) (z : Int32) (v : Int32) (r : Int32) (w : va_W) : Prop := ∃ (g15 : Nat → Int32) (g16 : Nat → Int32) (g17 : Nat → Int32), w = [(mo, .inr (9, mOb ad 0 (nI kn) (nI rn) (nI mn) (nI dp))), (ad 15, aI E 24 g15), (ad 16, aI E 168 g16), (ad 17, aI E 168 g17)] ∧ ((∃ i, i < rn ∧ y = nI i ∧ am 24 i = 0 ∧ ¬ v < 1 ∧ v ≤ 1000000 ∧ may (nI (pq i 17)) z ∧ r = 1 ∧ ((∃ j, j < pq i 15 ∧ lastAt (am 16) (7 * i) z (pq i 15) = some j ∧ g15 = am 15 ∧ g16 = am 16 ∧ g17 = upd (am 17) (7 * i + j) v) ∨ (lastAt (am 16) (7 * i) z (pq i 15) = none ∧ pq i 15 < 7 ∧ g15 = upd (am 15) i (nI (pq i 15 + 1)) ∧ g16 = upd (am 16) (7 * i + pq i 15) z ∧ g17 = upd (am 17) (7 * i + pq i 15) v))) ∨ (¬ (∃ i, i < rn ∧ y = nI i ∧ am 24 i = 0 ∧ ¬ v < 1 ∧ v ≤ 1000000 ∧ may (nI (pq i 17)) z) ∧ r = 0 ∧ g15 = am 15 ∧ g16 = am 16 ∧ g17 = am 17))
set_option maxHeartbeats 4000000 in
set_option maxRecDepth 100000 in
theorem kX8_tells (l : Launch) (E : xE) (mo : Nat) (ad : Nat → Nat) (th : Int32) (kn : Nat) (rn : Nat) (mn : Nat) (dp : Nat) (am : Nat → Nat → Int32) (al : Nat → Nat → Int64) (pq : Nat → Nat → Nat) (y : Int32) (z : Int32) (v : Int32) (hmk : mOk rn am pq) (hrn : rn ≤ 24) (htl : ∀ i x, i < rn → am 24 i = 0 → may (nI (pq i 17)) x → lastAt (am 16) (7 * i) x (pq i 15) = none → pq i 15 < 7) : KT l yX8_tells wsX8_tells 2 42 0 0 E [(mo, .inr (9, mOb ad th (nI kn) (nI rn) (nI mn) (nI dp))), (ad 15, aI E 24 (am 15)), (ad 16, aI E 168 (am 16)), (ad 17, aI E 168 (am 17))] [(ad 24, aI E 24 (am 24)), (ad 10, aI E 24 (am 10))] [.ref mo, .int y, .int z, .int v] (QI E (pX8_tells E mo ad th kn rn mn dp am al pq y z v)) := by
  refine KT.start (cc := cX8_tells) (maxL := 6) (ret := (some .boolean)) (by decide) rfl (Nat.le_of_ble_eq_true rfl) ?_
  intro p e s m below meth c A H hx hb hr hlocks hml hts hown hin hP hR0 hD hap hev hz hA hS ls hl
  have hl : lv_has ls 6 [(0, .ref mo), (1, .int y), (2, .int z), (3, .int v)] := hl
  have hiX8 : ∀ w ∈ wsX80, w ∈ wsX8_tells := fun _ h => List.mem_cons_of_mem _ (List.mem_append_right _ h)
  have hf192 := hts (.fieldLink RX8 192 "SignQuorumModel" "thrown" "I") (by decide +kernel)
  have hf33 := hts (.fieldLink RX8 33 "SignQuorumModel" "kind" "[I") (by decide +kernel)
  have hf48 := hts (.fieldLink RX8 48 "SignQuorumModel" "told" "[I") (by decide +kernel)
  have hf51 := hts (.fieldLink RX8 51 "SignQuorumModel" "toldRole" "[I") (by decide +kernel)
  have hf54 := hts (.fieldLink RX8 54 "SignQuorumModel" "toldVersion" "[I") (by decide +kernel)
  have hk250 := hts (.constant RX8 250 (1000000)) (by decide +kernel)
  refine lv_aload_n hx hb dX8_tells_0 rfl (lv_at hl 0 rfl) ?_
  refine lv_iconst (v := 0) hx hb dX8_tells_1 (by decide) ?_
  refine xpt TX8_0 (v := 0) hx hb hts hiX8 hown hev.1 hP hD hS 0 rfl (by decide) hf192 (Nat.le_of_ble_eq_true rfl) dX8_tells_2 (fun H locs hP hD hS => ?_)
  have hP : va_P E.1 vwCl [(mo, .inr (9, mOb ad 0 (nI kn) (nI rn) (nI mn) (nI dp))), (ad 15, aI E 24 (am 15)), (ad 16, aI E 168 (am 16)), (ad 17, aI E 168 (am 17))] H := hP
  have hD : va_D A [(mo, .inr (9, mOb ad 0 (nI kn) (nI rn) (nI mn) (nI dp))), (ad 15, aI E 24 (am 15)), (ad 16, aI E 168 (am 16)), (ad 17, aI E 168 (am 17))] := hD
  refine lv_aload_n hx hb dX8_tells_5 rfl (lv_at hl 0 rfl) ?_
  refine lv_iload_n hx hb dX8_tells_6 rfl (lv_at hl 1 rfl) ?_
  have hP := hP.sub (ws' := [] ++ [(mo, .inr (9, mOb ad 0 (nI kn) (nI rn) (nI mn) (nI dp))), (ad 15, aI E 24 (am 15)), (ad 16, aI E 168 (am 16)), (ad 17, aI E 168 (am 17))]) [0, 1, 2, 3] rfl
  have hD := hD.sub (ws' := [] ++ [(mo, .inr (9, mOb ad 0 (nI kn) (nI rn) (nI mn) (nI dp))), (ad 15, aI E 24 (am 15)), (ad 16, aI E 168 (am 16)), (ad 17, aI E 168 (am 17))]) [0, 1, 2, 3] (by decide) rfl
  refine xci (va_runV (As := [.int y]) (rest := []) ⟨hx, hb, hml, hown, hts⟩ (kX8_isOpen l E mo ad 0 kn rn mn dp (am 24) y (by first | assumption | omega) H.size) (cwV 1 hts gX8_tells_X8_isOpen rfl rfl rfl (by decide +kernel) ⟨Nat.le_of_ble_eq_true rfl, Nat.le_of_ble_eq_true rfl⟩) ⟨CP.blind, (va_recv hev.1 hP (ci := 9) (q0 := 0) rfl rfl), (xpre hev hz hA hP hD hS hR0 hap [0, 4] rfl)⟩ rfl rfl hl.1 rfl (lv_room (Nat.le_of_ble_eq_true rfl)) dX8_tells_7 ⟨Nat.le_of_ble_eq_true rfl, Nat.le_of_ble_eq_true rfl⟩) hP hD hS hA (fun r1 w2 H locs h3 hP hD hS => ?_)
  obtain ⟨rfl, rfl, h3⟩ := h3
  try dsimp only at h3
  have hP : va_P E.1 vwCl [(mo, .inr (9, mOb ad 0 (nI kn) (nI rn) (nI mn) (nI dp))), (ad 15, aI E 24 (am 15)), (ad 16, aI E 168 (am 16)), (ad 17, aI E 168 (am 17))] H := hP
  have hD : va_D A [(mo, .inr (9, mOb ad 0 (nI kn) (nI rn) (nI mn) (nI dp))), (ad 15, aI E 24 (am 15)), (ad 16, aI E 168 (am 16)), (ad 17, aI E 168 (am 17))] := hD
  refine lv_if_eq (tgt := 24) hx hb dX8_tells_10 (by decide) (fun c4 => ?_) (fun c4 => ?_)
  · skip
    have kc4 := b1_0.mp c4
    refine lv_iconst (v := 0) hx hb dX8_tells_24 (by decide) ?_
    refine xrz hx hb hr hlocks (by first | rfl | decide | exact b1_narrow _) hP hD hS ⟨(am 15), (am 16), (am 17), rfl, ?_⟩ dX8_tells_25
    exact Or.inr ⟨fun ⟨i9, h1, h2, h3, _⟩ => kc4 ⟨i9, h1, h2, h3⟩, rfl, rfl, rfl, rfl⟩
  · skip
    have kc4 := b1_n.mp c4
    refine lv_iload_n hx hb dX8_tells_13 rfl (lv_at hl 3 rfl) ?_
    refine lv_iconst (v := 1) hx hb dX8_tells_14 (by decide) ?_
    refine lv_icmp_lt (tgt := 24) hx hb dX8_tells_15 (by decide) (fun c5 => ?_) (fun c5 => ?_)
    · skip
      refine lv_iconst (v := 0) hx hb dX8_tells_24 (by decide) ?_
      refine xrz hx hb hr hlocks (by first | rfl | decide | exact b1_narrow _) hP hD hS ⟨(am 15), (am 16), (am 17), rfl, ?_⟩ dX8_tells_25
      exact Or.inr ⟨fun ⟨i9, h1, h2, h3, h4, _⟩ => h4 c5, rfl, rfl, rfl, rfl⟩
    · skip
      refine lv_iload_n hx hb dX8_tells_18 rfl (lv_at hl 3 rfl) ?_
      refine lv_ldc hx hb hown hk250 dX8_tells_19 ?_
      refine lv_icmp_le (tgt := 26) hx hb dX8_tells_21 (by decide) (fun c6 => ?_) (fun c6 => ?_)
      · skip
        obtain ⟨i, hi, rfl, hopen⟩ := kc4
        obtain ⟨h10, h12, h15, h18, h22, h24, hb10, hb12, hb15, hb18, hb22, hb24⟩ := hmk i (hi)
        refine lv_aload_n hx hb dX8_tells_26 rfl (lv_at hl 0 rfl) ?_
        refine xgt TX8_10 (v := .ref (ad 10)) hx hb hts hiX8 hown hev.1 hP 0 rfl (by decide) hf33 rfl dX8_tells_27 ?_
        refine lv_iload_n hx hb dX8_tells_30 rfl (lv_at hl 1 rfl) ?_
        refine xiald (k := (i)) hx hb hev.1 (xro hR0 hap hS) 1 1 rfl rfl (by omega) (by decide) dX8_tells_31 ?_
        refine xtop (y := nI (pq i 17)) (h10) ?_
        refine lv_iconst (v := 1) hx hb dX8_tells_32 (by decide) ?_
        refine lv_icmp_ne (tgt := 49) hx hb dX8_tells_33 (by decide) (fun c7 => ?_) (fun c7 => ?_)
        · skip
          have kc7 : ¬ (pq i 17) = 1 := fun h9 => c7 ((nI_eq (a := (pq i 17)) (b := 1) (by omega) (by omega)).mpr h9)
          refine lv_aload_n hx hb dX8_tells_49 rfl (lv_at hl 0 rfl) ?_
          refine xgt TX8_10 (v := .ref (ad 10)) hx hb hts hiX8 hown hev.1 hP 0 rfl (by decide) hf33 rfl dX8_tells_50 ?_
          refine lv_iload_n hx hb dX8_tells_53 rfl (lv_at hl 1 rfl) ?_
          refine xiald (k := (i)) hx hb hev.1 (xro hR0 hap hS) 1 1 rfl rfl (by omega) (by decide) dX8_tells_54 ?_
          refine xtop (y := nI (pq i 17)) (h10) ?_
          refine lv_iconst (v := 2) hx hb dX8_tells_55 (by decide) ?_
          refine lv_icmp_ne (tgt := 74) hx hb dX8_tells_56 (by decide) (fun c8 => ?_) (fun c8 => ?_)
          · skip
            have kc8 : ¬ (pq i 17) = 2 := fun h9 => c8 ((nI_eq (a := (pq i 17)) (b := 2) (by omega) (by omega)).mpr h9)
            refine lv_iconst (v := 0) hx hb dX8_tells_74 (by decide) ?_
            refine lv_istore (lv' := [(4, .int 0), (0, .ref mo), (1, .int (nI i)), (2, .int z), (3, .int v)]) hx hb dX8_tells_75 hl (by decide) rfl (fun ls hl => ?_)
            refine lv_iload hx hb dX8_tells_77 (lv_at hl 0 rfl) ?_
            refine lv_if_ne (tgt := 84) hx hb dX8_tells_79 (by decide) (fun c9 => absurd c9 (by decide)) (fun c9 => ?_)
            refine lv_iconst (v := 0) hx hb dX8_tells_82 (by decide) ?_
            refine xrz hx hb hr hlocks (by first | rfl | decide | exact b1_narrow _) hP hD hS ⟨(am 15), (am 16), (am 17), rfl, ?_⟩ dX8_tells_83
            exact Or.inr ⟨(fun ⟨i9, h1, h2, h3, _, _, h4⟩ => by have e9 := (nI_eq (by omega) (by omega)).mp h2; subst e9; exact absurd h4 (by unfold may; rw [if_neg c7]; exact fun h9 => c8 h9.1)), rfl, rfl, rfl, rfl⟩
          · skip
            have kc8 : (pq i 17) = 2 := (nI_eq (a := (pq i 17)) (b := 2) (by omega) (by omega)).mp c8
            refine lv_iload_n hx hb dX8_tells_59 rfl (lv_at hl 2 rfl) ?_
            refine lv_iconst (v := 3) hx hb dX8_tells_60 (by decide) ?_
            refine lv_icmp_lt (tgt := 74) hx hb dX8_tells_61 (by decide) (fun c10 => ?_) (fun c10 => ?_)
            · skip
              refine lv_iconst (v := 0) hx hb dX8_tells_74 (by decide) ?_
              refine lv_istore (lv' := [(4, .int 0), (0, .ref mo), (1, .int (nI i)), (2, .int z), (3, .int v)]) hx hb dX8_tells_75 hl (by decide) rfl (fun ls hl => ?_)
              refine lv_iload hx hb dX8_tells_77 (lv_at hl 0 rfl) ?_
              refine lv_if_ne (tgt := 84) hx hb dX8_tells_79 (by decide) (fun c11 => absurd c11 (by decide)) (fun c11 => ?_)
              refine lv_iconst (v := 0) hx hb dX8_tells_82 (by decide) ?_
              refine xrz hx hb hr hlocks (by first | rfl | decide | exact b1_narrow _) hP hD hS ⟨(am 15), (am 16), (am 17), rfl, ?_⟩ dX8_tells_83
              exact Or.inr ⟨(fun ⟨i9, h1, h2, h3, _, _, h4⟩ => by have e9 := (nI_eq (by omega) (by omega)).mp h2; subst e9; exact absurd h4 (by unfold may; rw [if_neg c7]; exact fun h9 => h9.2.1 c10)), rfl, rfl, rfl, rfl⟩
            · skip
              refine lv_iload_n hx hb dX8_tells_64 rfl (lv_at hl 2 rfl) ?_
              refine lv_bipush (v := 10) hx hb dX8_tells_65 (by decide) ?_
              refine lv_icmp_ge (tgt := 74) hx hb dX8_tells_67 (by decide) (fun c12 => ?_) (fun c12 => ?_)
              · skip
                refine lv_iconst (v := 0) hx hb dX8_tells_74 (by decide) ?_
                refine lv_istore (lv' := [(4, .int 0), (0, .ref mo), (1, .int (nI i)), (2, .int z), (3, .int v)]) hx hb dX8_tells_75 hl (by decide) rfl (fun ls hl => ?_)
                refine lv_iload hx hb dX8_tells_77 (lv_at hl 0 rfl) ?_
                refine lv_if_ne (tgt := 84) hx hb dX8_tells_79 (by decide) (fun c13 => absurd c13 (by decide)) (fun c13 => ?_)
                refine lv_iconst (v := 0) hx hb dX8_tells_82 (by decide) ?_
                refine xrz hx hb hr hlocks (by first | rfl | decide | exact b1_narrow _) hP hD hS ⟨(am 15), (am 16), (am 17), rfl, ?_⟩ dX8_tells_83
                exact Or.inr ⟨(fun ⟨i9, h1, h2, h3, _, _, h4⟩ => by have e9 := (nI_eq (by omega) (by omega)).mp h2; subst e9; exact absurd h4 (by unfold may; rw [if_neg c7]; exact fun h9 => h9.2.2 c12)), rfl, rfl, rfl, rfl⟩
              · skip
                refine lv_iconst (v := 1) hx hb dX8_tells_70 (by decide) ?_
                refine lv_goto (tgt := 75) hx hb dX8_tells_71 (by decide) ?_
                refine lv_istore (lv' := [(4, .int 1), (0, .ref mo), (1, .int (nI i)), (2, .int z), (3, .int v)]) hx hb dX8_tells_75 hl (by decide) rfl (fun ls hl => ?_)
                refine lv_iload hx hb dX8_tells_77 (lv_at hl 0 rfl) ?_
                refine lv_if_ne (tgt := 84) hx hb dX8_tells_79 (by decide) (fun c14 => ?_) (fun c14 => absurd c14 (by decide))
                refine lv_aload_n hx hb dX8_tells_84 rfl (lv_at hl 1 rfl) ?_
                refine lv_iload_n hx hb dX8_tells_85 rfl (lv_at hl 2 rfl) ?_
                refine lv_iload_n hx hb dX8_tells_86 rfl (lv_at hl 3 rfl) ?_
                have hP := hP.sub (ws' := [] ++ [(mo, .inr (9, mOb ad 0 (nI kn) (nI rn) (nI mn) (nI dp))), (ad 15, aI E 24 (am 15)), (ad 16, aI E 168 (am 16)), (ad 17, aI E 168 (am 17))]) [0, 1, 2, 3] rfl
                have hD := hD.sub (ws' := [] ++ [(mo, .inr (9, mOb ad 0 (nI kn) (nI rn) (nI mn) (nI dp))), (ad 15, aI E 24 (am 15)), (ad 16, aI E 168 (am 16)), (ad 17, aI E 168 (am 17))]) [0, 1, 2, 3] (by decide) rfl
                refine xci (va_runV (As := [.int (nI i), .int z]) (rest := []) ⟨hx, hb, hml, hown, hts⟩ (kX8_toldAt l E mo ad 0 kn rn mn dp (am 15) (am 16) i (pq i 15) z (by first | assumption | omega) (by first | assumption | omega) (by first | assumption | omega) H.size) (cwV 2 hts gX8_tells_X8_toldAt rfl rfl rfl (by decide +kernel) ⟨Nat.le_of_ble_eq_true rfl, Nat.le_of_ble_eq_true rfl⟩) ⟨CP.blind, (va_recv hev.1 hP (ci := 9) (q0 := 0) rfl rfl), (xpre hev hz hA hP hD hS hR0 hap [0, 1, 2] rfl)⟩ rfl rfl hl.1 rfl (lv_room (Nat.le_of_ble_eq_true rfl)) dX8_tells_87 ⟨Nat.le_of_ble_eq_true rfl, Nat.le_of_ble_eq_true rfl⟩) hP hD hS hA (fun r15 w16 H locs h17 hP hD hS => ?_)
                obtain ⟨rfl, rfl, h17⟩ := h17
                try dsimp only at h17
                have hP : va_P E.1 vwCl [(mo, .inr (9, mOb ad 0 (nI kn) (nI rn) (nI mn) (nI dp))), (ad 15, aI E 24 (am 15)), (ad 16, aI E 168 (am 16)), (ad 17, aI E 168 (am 17))] H := hP
                have hD : va_D A [(mo, .inr (9, mOb ad 0 (nI kn) (nI rn) (nI mn) (nI dp))), (ad 15, aI E 24 (am 15)), (ad 16, aI E 168 (am 16)), (ad 17, aI E 168 (am 17))] := hD
                cases z18 : lastAt (am 16) (7 * i) z (pq i 15) with
                | none =>
                  refine xtop (y := (-1)) (by first | rfl | rw [z18]) ?_
                  refine lv_istore (lv' := [(5, .int (-1)), (4, .int 1), (0, .ref mo), (1, .int (nI i)), (2, .int z), (3, .int v)]) hx hb dX8_tells_90 hl (by decide) rfl (fun ls hl => ?_)
                  refine lv_iload hx hb dX8_tells_92 (lv_at hl 0 rfl) ?_
                  refine lv_iconst (v := (-1)) hx hb dX8_tells_94 (by decide) ?_
                  refine lv_icmp_ne (tgt := 129) hx hb dX8_tells_95 (by decide) (fun c19 => absurd c19 (by decide)) (fun c19 => ?_)
                  have h7 := htl i z hi hopen (by unfold may; rw [if_neg c7]; exact ⟨c8, c10, c12⟩) z18
                  refine lv_bipush (v := 7) hx hb dX8_tells_98 (by decide) ?_
                  refine lv_iload_n hx hb dX8_tells_100 rfl (lv_at hl 3 rfl) ?_
                  refine lv_imul hx hb dX8_tells_101 ?_
                  refine xtop (y := nI (7 * i)) (pk_mul _ _) ?_
                  refine lv_aload_n hx hb dX8_tells_102 rfl (lv_at hl 2 rfl) ?_
                  refine xgt TX8_15 (v := .ref (ad 15)) hx hb hts hiX8 hown hev.1 hP 0 rfl (by decide) hf48 rfl dX8_tells_103 ?_
                  refine lv_iload_n hx hb dX8_tells_106 rfl (lv_at hl 3 rfl) ?_
                  refine xiald (k := (i)) hx hb hev.1 hP 1 1 rfl rfl (by omega) (by decide) dX8_tells_107 ?_
                  refine xtop (y := nI (pq i 15)) (h15) ?_
                  refine lv_iadd hx hb dX8_tells_108 ?_
                  refine xtop (y := nI (7 * i + (pq i 15))) ((nI_add (7 * i) (pq i 15)).trans (congrArg nI (by omega))) ?_
                  refine lv_istore (lv' := [(5, .int (nI (7 * i + (pq i 15)))), (4, .int 1), (0, .ref mo), (1, .int (nI i)), (2, .int z), (3, .int v)]) hx hb dX8_tells_109 hl (by decide) rfl (fun ls hl => ?_)
                  refine lv_aload_n hx hb dX8_tells_111 rfl (lv_at hl 2 rfl) ?_
                  refine xgt TX8_15 (v := .ref (ad 15)) hx hb hts hiX8 hown hev.1 hP 0 rfl (by decide) hf48 rfl dX8_tells_112 ?_
                  refine lv_iload_n hx hb dX8_tells_115 rfl (lv_at hl 3 rfl) ?_
                  refine lv_dup2_11 hx hb dX8_tells_116 rfl rfl ?_
                  refine xiald (k := (i)) hx hb hev.1 hP 1 1 rfl rfl (by omega) (by decide) dX8_tells_117 ?_
                  refine xtop (y := nI (pq i 15)) (h15) ?_
                  refine lv_iconst (v := 1) hx hb dX8_tells_118 (by decide) ?_
                  refine lv_iadd hx hb dX8_tells_119 ?_
                  refine xtop (y := nI (pq i 15 + 1)) ((nI_add (pq i 15) 1).trans (congrArg nI (by omega))) ?_
                  refine xiast (k := i) hx hb hev.1 hP hD hS 1 1 rfl rfl (by omega) (by decide) dX8_tells_120 (fun H locs hP hD hS => ?_)
                  obtain ⟨f20, ef20⟩ : ∃ y9_ : Nat → Int32, y9_ = upd (am 15) i (nI (pq i 15 + 1)) := ⟨_, rfl⟩
                  rw [← ef20] at hP hD
                  have hP : va_P E.1 vwCl [(mo, .inr (9, mOb ad 0 (nI kn) (nI rn) (nI mn) (nI dp))), (ad 15, aI E 24 f20), (ad 16, aI E 168 (am 16)), (ad 17, aI E 168 (am 17))] H := hP
                  have hD : va_D A [(mo, .inr (9, mOb ad 0 (nI kn) (nI rn) (nI mn) (nI dp))), (ad 15, aI E 24 f20), (ad 16, aI E 168 (am 16)), (ad 17, aI E 168 (am 17))] := hD
                  refine lv_aload_n hx hb dX8_tells_121 rfl (lv_at hl 2 rfl) ?_
                  refine xgt TX8_16 (v := .ref (ad 16)) hx hb hts hiX8 hown hev.1 hP 0 rfl (by decide) hf51 rfl dX8_tells_122 ?_
                  refine lv_iload hx hb dX8_tells_125 (lv_at hl 0 rfl) ?_
                  refine lv_iload_n hx hb dX8_tells_127 rfl (lv_at hl 4 rfl) ?_
                  refine xiast (k := 7 * i + (pq i 15)) hx hb hev.1 hP hD hS 2 1 rfl rfl (by omega) (by decide) dX8_tells_128 (fun H locs hP hD hS => ?_)
                  obtain ⟨f21, ef21⟩ : ∃ y9_ : Nat → Int32, y9_ = upd (am 16) (7 * i + (pq i 15)) z := ⟨_, rfl⟩
                  rw [← ef21] at hP hD
                  have hP : va_P E.1 vwCl [(mo, .inr (9, mOb ad 0 (nI kn) (nI rn) (nI mn) (nI dp))), (ad 15, aI E 24 f20), (ad 16, aI E 168 f21), (ad 17, aI E 168 (am 17))] H := hP
                  have hD : va_D A [(mo, .inr (9, mOb ad 0 (nI kn) (nI rn) (nI mn) (nI dp))), (ad 15, aI E 24 f20), (ad 16, aI E 168 f21), (ad 17, aI E 168 (am 17))] := hD
                  refine lv_aload_n hx hb dX8_tells_129 rfl (lv_at hl 2 rfl) ?_
                  refine xgt TX8_17 (v := .ref (ad 17)) hx hb hts hiX8 hown hev.1 hP 0 rfl (by decide) hf54 rfl dX8_tells_130 ?_
                  refine lv_iload hx hb dX8_tells_133 (lv_at hl 0 rfl) ?_
                  refine lv_iload_n hx hb dX8_tells_135 rfl (lv_at hl 5 rfl) ?_
                  refine xiast (k := 7 * i + (pq i 15)) hx hb hev.1 hP hD hS 3 1 rfl rfl (by omega) (by decide) dX8_tells_136 (fun H locs hP hD hS => ?_)
                  obtain ⟨f22, ef22⟩ : ∃ y9_ : Nat → Int32, y9_ = upd (am 17) (7 * i + (pq i 15)) v := ⟨_, rfl⟩
                  rw [← ef22] at hP hD
                  have hP : va_P E.1 vwCl [(mo, .inr (9, mOb ad 0 (nI kn) (nI rn) (nI mn) (nI dp))), (ad 15, aI E 24 f20), (ad 16, aI E 168 f21), (ad 17, aI E 168 f22)] H := hP
                  have hD : va_D A [(mo, .inr (9, mOb ad 0 (nI kn) (nI rn) (nI mn) (nI dp))), (ad 15, aI E 24 f20), (ad 16, aI E 168 f21), (ad 17, aI E 168 f22)] := hD
                  refine lv_iconst (v := 1) hx hb dX8_tells_137 (by decide) ?_
                  refine xrz hx hb hr hlocks (by first | rfl | decide | exact b1_narrow _) hP hD hS ⟨f20, f21, f22, rfl, ?_⟩ dX8_tells_138
                  exact Or.inl ⟨i, hi, rfl, hopen, c5, c6, (by unfold may; rw [if_neg c7]; exact ⟨c8, c10, c12⟩), rfl, Or.inr ⟨z18, h7, by assumption, by assumption, by assumption⟩⟩
                | some jj =>
                  refine xtop (y := nI (7 * i + jj)) (by first | rfl | rw [z18]) ?_
                  have hjjj := lastAt_lt z18
                  refine lv_istore (lv' := [(5, .int (nI (7 * i + jj))), (4, .int 1), (0, .ref mo), (1, .int (nI i)), (2, .int z), (3, .int v)]) hx hb dX8_tells_90 hl (by decide) rfl (fun ls hl => ?_)
                  refine lv_iload hx hb dX8_tells_92 (lv_at hl 0 rfl) ?_
                  refine lv_iconst (v := (-1)) hx hb dX8_tells_94 (by decide) ?_
                  refine lv_icmp_ne (tgt := 129) hx hb dX8_tells_95 (by decide) (fun c23 => ?_) (fun c23 => absurd c23 (nI_ne1 (by omega)))
                  refine lv_aload_n hx hb dX8_tells_129 rfl (lv_at hl 2 rfl) ?_
                  refine xgt TX8_17 (v := .ref (ad 17)) hx hb hts hiX8 hown hev.1 hP 0 rfl (by decide) hf54 rfl dX8_tells_130 ?_
                  refine lv_iload hx hb dX8_tells_133 (lv_at hl 0 rfl) ?_
                  refine lv_iload_n hx hb dX8_tells_135 rfl (lv_at hl 5 rfl) ?_
                  refine xiast (k := 7 * i + jj) hx hb hev.1 hP hD hS 3 1 rfl rfl (by omega) (by decide) dX8_tells_136 (fun H locs hP hD hS => ?_)
                  obtain ⟨f24, ef24⟩ : ∃ y9_ : Nat → Int32, y9_ = upd (am 17) (7 * i + jj) v := ⟨_, rfl⟩
                  rw [← ef24] at hP hD
                  have hP : va_P E.1 vwCl [(mo, .inr (9, mOb ad 0 (nI kn) (nI rn) (nI mn) (nI dp))), (ad 15, aI E 24 (am 15)), (ad 16, aI E 168 (am 16)), (ad 17, aI E 168 f24)] H := hP
                  have hD : va_D A [(mo, .inr (9, mOb ad 0 (nI kn) (nI rn) (nI mn) (nI dp))), (ad 15, aI E 24 (am 15)), (ad 16, aI E 168 (am 16)), (ad 17, aI E 168 f24)] := hD
                  refine lv_iconst (v := 1) hx hb dX8_tells_137 (by decide) ?_
                  refine xrz hx hb hr hlocks (by first | rfl | decide | exact b1_narrow _) hP hD hS ⟨(am 15), (am 16), f24, rfl, ?_⟩ dX8_tells_138
                  exact Or.inl ⟨i, hi, rfl, hopen, c5, c6, (by unfold may; rw [if_neg c7]; exact ⟨c8, c10, c12⟩), rfl, Or.inl ⟨jj, hjjj, z18, rfl, rfl, by assumption⟩⟩
        · skip
          have kc7 : (pq i 17) = 1 := (nI_eq (a := (pq i 17)) (b := 1) (by omega) (by omega)).mp c7
          refine lv_iload_n hx hb dX8_tells_36 rfl (lv_at hl 2 rfl) ?_
          refine lv_iconst (v := 2) hx hb dX8_tells_37 (by decide) ?_
          refine lv_icmp_ne (tgt := 45) hx hb dX8_tells_38 (by decide) (fun c25 => ?_) (fun c25 => ?_)
          · skip
            refine lv_iconst (v := 0) hx hb dX8_tells_45 (by decide) ?_
            refine lv_goto (tgt := 75) hx hb dX8_tells_46 (by decide) ?_
            refine lv_istore (lv' := [(4, .int 0), (0, .ref mo), (1, .int (nI i)), (2, .int z), (3, .int v)]) hx hb dX8_tells_75 hl (by decide) rfl (fun ls hl => ?_)
            refine lv_iload hx hb dX8_tells_77 (lv_at hl 0 rfl) ?_
            refine lv_if_ne (tgt := 84) hx hb dX8_tells_79 (by decide) (fun c26 => absurd c26 (by decide)) (fun c26 => ?_)
            refine lv_iconst (v := 0) hx hb dX8_tells_82 (by decide) ?_
            refine xrz hx hb hr hlocks (by first | rfl | decide | exact b1_narrow _) hP hD hS ⟨(am 15), (am 16), (am 17), rfl, ?_⟩ dX8_tells_83
            exact Or.inr ⟨(fun ⟨i9, h1, h2, h3, _, _, h4⟩ => by have e9 := (nI_eq (by omega) (by omega)).mp h2; subst e9; exact absurd h4 (by unfold may; rw [if_pos c7]; exact c25)), rfl, rfl, rfl, rfl⟩
          · skip
            refine lv_iconst (v := 1) hx hb dX8_tells_41 (by decide) ?_
            refine lv_goto (tgt := 75) hx hb dX8_tells_42 (by decide) ?_
            refine lv_istore (lv' := [(4, .int 1), (0, .ref mo), (1, .int (nI i)), (2, .int z), (3, .int v)]) hx hb dX8_tells_75 hl (by decide) rfl (fun ls hl => ?_)
            refine lv_iload hx hb dX8_tells_77 (lv_at hl 0 rfl) ?_
            refine lv_if_ne (tgt := 84) hx hb dX8_tells_79 (by decide) (fun c27 => ?_) (fun c27 => absurd c27 (by decide))
            refine lv_aload_n hx hb dX8_tells_84 rfl (lv_at hl 1 rfl) ?_
            refine lv_iload_n hx hb dX8_tells_85 rfl (lv_at hl 2 rfl) ?_
            refine lv_iload_n hx hb dX8_tells_86 rfl (lv_at hl 3 rfl) ?_
            have hP := hP.sub (ws' := [] ++ [(mo, .inr (9, mOb ad 0 (nI kn) (nI rn) (nI mn) (nI dp))), (ad 15, aI E 24 (am 15)), (ad 16, aI E 168 (am 16)), (ad 17, aI E 168 (am 17))]) [0, 1, 2, 3] rfl
            have hD := hD.sub (ws' := [] ++ [(mo, .inr (9, mOb ad 0 (nI kn) (nI rn) (nI mn) (nI dp))), (ad 15, aI E 24 (am 15)), (ad 16, aI E 168 (am 16)), (ad 17, aI E 168 (am 17))]) [0, 1, 2, 3] (by decide) rfl
            refine xci (va_runV (As := [.int (nI i), .int z]) (rest := []) ⟨hx, hb, hml, hown, hts⟩ (kX8_toldAt l E mo ad 0 kn rn mn dp (am 15) (am 16) i (pq i 15) z (by first | assumption | omega) (by first | assumption | omega) (by first | assumption | omega) H.size) (cwV 2 hts gX8_tells_X8_toldAt rfl rfl rfl (by decide +kernel) ⟨Nat.le_of_ble_eq_true rfl, Nat.le_of_ble_eq_true rfl⟩) ⟨CP.blind, (va_recv hev.1 hP (ci := 9) (q0 := 0) rfl rfl), (xpre hev hz hA hP hD hS hR0 hap [0, 1, 2] rfl)⟩ rfl rfl hl.1 rfl (lv_room (Nat.le_of_ble_eq_true rfl)) dX8_tells_87 ⟨Nat.le_of_ble_eq_true rfl, Nat.le_of_ble_eq_true rfl⟩) hP hD hS hA (fun r28 w29 H locs h30 hP hD hS => ?_)
            obtain ⟨rfl, rfl, h30⟩ := h30
            try dsimp only at h30
            have hP : va_P E.1 vwCl [(mo, .inr (9, mOb ad 0 (nI kn) (nI rn) (nI mn) (nI dp))), (ad 15, aI E 24 (am 15)), (ad 16, aI E 168 (am 16)), (ad 17, aI E 168 (am 17))] H := hP
            have hD : va_D A [(mo, .inr (9, mOb ad 0 (nI kn) (nI rn) (nI mn) (nI dp))), (ad 15, aI E 24 (am 15)), (ad 16, aI E 168 (am 16)), (ad 17, aI E 168 (am 17))] := hD
            cases z31 : lastAt (am 16) (7 * i) z (pq i 15) with
            | none =>
              refine xtop (y := (-1)) (by first | rfl | rw [z31]) ?_
              refine lv_istore (lv' := [(5, .int (-1)), (4, .int 1), (0, .ref mo), (1, .int (nI i)), (2, .int z), (3, .int v)]) hx hb dX8_tells_90 hl (by decide) rfl (fun ls hl => ?_)
              refine lv_iload hx hb dX8_tells_92 (lv_at hl 0 rfl) ?_
              refine lv_iconst (v := (-1)) hx hb dX8_tells_94 (by decide) ?_
              refine lv_icmp_ne (tgt := 129) hx hb dX8_tells_95 (by decide) (fun c32 => absurd c32 (by decide)) (fun c32 => ?_)
              have h7 := htl i z hi hopen (by unfold may; rw [if_pos c7]; exact c25) z31
              refine lv_bipush (v := 7) hx hb dX8_tells_98 (by decide) ?_
              refine lv_iload_n hx hb dX8_tells_100 rfl (lv_at hl 3 rfl) ?_
              refine lv_imul hx hb dX8_tells_101 ?_
              refine xtop (y := nI (7 * i)) (pk_mul _ _) ?_
              refine lv_aload_n hx hb dX8_tells_102 rfl (lv_at hl 2 rfl) ?_
              refine xgt TX8_15 (v := .ref (ad 15)) hx hb hts hiX8 hown hev.1 hP 0 rfl (by decide) hf48 rfl dX8_tells_103 ?_
              refine lv_iload_n hx hb dX8_tells_106 rfl (lv_at hl 3 rfl) ?_
              refine xiald (k := (i)) hx hb hev.1 hP 1 1 rfl rfl (by omega) (by decide) dX8_tells_107 ?_
              refine xtop (y := nI (pq i 15)) (h15) ?_
              refine lv_iadd hx hb dX8_tells_108 ?_
              refine xtop (y := nI (7 * i + (pq i 15))) ((nI_add (7 * i) (pq i 15)).trans (congrArg nI (by omega))) ?_
              refine lv_istore (lv' := [(5, .int (nI (7 * i + (pq i 15)))), (4, .int 1), (0, .ref mo), (1, .int (nI i)), (2, .int z), (3, .int v)]) hx hb dX8_tells_109 hl (by decide) rfl (fun ls hl => ?_)
              refine lv_aload_n hx hb dX8_tells_111 rfl (lv_at hl 2 rfl) ?_
              refine xgt TX8_15 (v := .ref (ad 15)) hx hb hts hiX8 hown hev.1 hP 0 rfl (by decide) hf48 rfl dX8_tells_112 ?_
              refine lv_iload_n hx hb dX8_tells_115 rfl (lv_at hl 3 rfl) ?_
              refine lv_dup2_11 hx hb dX8_tells_116 rfl rfl ?_
              refine xiald (k := (i)) hx hb hev.1 hP 1 1 rfl rfl (by omega) (by decide) dX8_tells_117 ?_
              refine xtop (y := nI (pq i 15)) (h15) ?_
              refine lv_iconst (v := 1) hx hb dX8_tells_118 (by decide) ?_
              refine lv_iadd hx hb dX8_tells_119 ?_
              refine xtop (y := nI (pq i 15 + 1)) ((nI_add (pq i 15) 1).trans (congrArg nI (by omega))) ?_
              refine xiast (k := i) hx hb hev.1 hP hD hS 1 1 rfl rfl (by omega) (by decide) dX8_tells_120 (fun H locs hP hD hS => ?_)
              obtain ⟨f33, ef33⟩ : ∃ y9_ : Nat → Int32, y9_ = upd (am 15) i (nI (pq i 15 + 1)) := ⟨_, rfl⟩
              rw [← ef33] at hP hD
              have hP : va_P E.1 vwCl [(mo, .inr (9, mOb ad 0 (nI kn) (nI rn) (nI mn) (nI dp))), (ad 15, aI E 24 f33), (ad 16, aI E 168 (am 16)), (ad 17, aI E 168 (am 17))] H := hP
              have hD : va_D A [(mo, .inr (9, mOb ad 0 (nI kn) (nI rn) (nI mn) (nI dp))), (ad 15, aI E 24 f33), (ad 16, aI E 168 (am 16)), (ad 17, aI E 168 (am 17))] := hD
              refine lv_aload_n hx hb dX8_tells_121 rfl (lv_at hl 2 rfl) ?_
              refine xgt TX8_16 (v := .ref (ad 16)) hx hb hts hiX8 hown hev.1 hP 0 rfl (by decide) hf51 rfl dX8_tells_122 ?_
              refine lv_iload hx hb dX8_tells_125 (lv_at hl 0 rfl) ?_
              refine lv_iload_n hx hb dX8_tells_127 rfl (lv_at hl 4 rfl) ?_
              refine xiast (k := 7 * i + (pq i 15)) hx hb hev.1 hP hD hS 2 1 rfl rfl (by omega) (by decide) dX8_tells_128 (fun H locs hP hD hS => ?_)
              obtain ⟨f34, ef34⟩ : ∃ y9_ : Nat → Int32, y9_ = upd (am 16) (7 * i + (pq i 15)) z := ⟨_, rfl⟩
              rw [← ef34] at hP hD
              have hP : va_P E.1 vwCl [(mo, .inr (9, mOb ad 0 (nI kn) (nI rn) (nI mn) (nI dp))), (ad 15, aI E 24 f33), (ad 16, aI E 168 f34), (ad 17, aI E 168 (am 17))] H := hP
              have hD : va_D A [(mo, .inr (9, mOb ad 0 (nI kn) (nI rn) (nI mn) (nI dp))), (ad 15, aI E 24 f33), (ad 16, aI E 168 f34), (ad 17, aI E 168 (am 17))] := hD
              refine lv_aload_n hx hb dX8_tells_129 rfl (lv_at hl 2 rfl) ?_
              refine xgt TX8_17 (v := .ref (ad 17)) hx hb hts hiX8 hown hev.1 hP 0 rfl (by decide) hf54 rfl dX8_tells_130 ?_
              refine lv_iload hx hb dX8_tells_133 (lv_at hl 0 rfl) ?_
              refine lv_iload_n hx hb dX8_tells_135 rfl (lv_at hl 5 rfl) ?_
              refine xiast (k := 7 * i + (pq i 15)) hx hb hev.1 hP hD hS 3 1 rfl rfl (by omega) (by decide) dX8_tells_136 (fun H locs hP hD hS => ?_)
              obtain ⟨f35, ef35⟩ : ∃ y9_ : Nat → Int32, y9_ = upd (am 17) (7 * i + (pq i 15)) v := ⟨_, rfl⟩
              rw [← ef35] at hP hD
              have hP : va_P E.1 vwCl [(mo, .inr (9, mOb ad 0 (nI kn) (nI rn) (nI mn) (nI dp))), (ad 15, aI E 24 f33), (ad 16, aI E 168 f34), (ad 17, aI E 168 f35)] H := hP
              have hD : va_D A [(mo, .inr (9, mOb ad 0 (nI kn) (nI rn) (nI mn) (nI dp))), (ad 15, aI E 24 f33), (ad 16, aI E 168 f34), (ad 17, aI E 168 f35)] := hD
              refine lv_iconst (v := 1) hx hb dX8_tells_137 (by decide) ?_
              refine xrz hx hb hr hlocks (by first | rfl | decide | exact b1_narrow _) hP hD hS ⟨f33, f34, f35, rfl, ?_⟩ dX8_tells_138
              exact Or.inl ⟨i, hi, rfl, hopen, c5, c6, (by unfold may; rw [if_pos c7]; exact c25), rfl, Or.inr ⟨z31, h7, by assumption, by assumption, by assumption⟩⟩
            | some jj =>
              refine xtop (y := nI (7 * i + jj)) (by first | rfl | rw [z31]) ?_
              have hjjj := lastAt_lt z31
              refine lv_istore (lv' := [(5, .int (nI (7 * i + jj))), (4, .int 1), (0, .ref mo), (1, .int (nI i)), (2, .int z), (3, .int v)]) hx hb dX8_tells_90 hl (by decide) rfl (fun ls hl => ?_)
              refine lv_iload hx hb dX8_tells_92 (lv_at hl 0 rfl) ?_
              refine lv_iconst (v := (-1)) hx hb dX8_tells_94 (by decide) ?_
              refine lv_icmp_ne (tgt := 129) hx hb dX8_tells_95 (by decide) (fun c36 => ?_) (fun c36 => absurd c36 (nI_ne1 (by omega)))
              refine lv_aload_n hx hb dX8_tells_129 rfl (lv_at hl 2 rfl) ?_
              refine xgt TX8_17 (v := .ref (ad 17)) hx hb hts hiX8 hown hev.1 hP 0 rfl (by decide) hf54 rfl dX8_tells_130 ?_
              refine lv_iload hx hb dX8_tells_133 (lv_at hl 0 rfl) ?_
              refine lv_iload_n hx hb dX8_tells_135 rfl (lv_at hl 5 rfl) ?_
              refine xiast (k := 7 * i + jj) hx hb hev.1 hP hD hS 3 1 rfl rfl (by omega) (by decide) dX8_tells_136 (fun H locs hP hD hS => ?_)
              obtain ⟨f37, ef37⟩ : ∃ y9_ : Nat → Int32, y9_ = upd (am 17) (7 * i + jj) v := ⟨_, rfl⟩
              rw [← ef37] at hP hD
              have hP : va_P E.1 vwCl [(mo, .inr (9, mOb ad 0 (nI kn) (nI rn) (nI mn) (nI dp))), (ad 15, aI E 24 (am 15)), (ad 16, aI E 168 (am 16)), (ad 17, aI E 168 f37)] H := hP
              have hD : va_D A [(mo, .inr (9, mOb ad 0 (nI kn) (nI rn) (nI mn) (nI dp))), (ad 15, aI E 24 (am 15)), (ad 16, aI E 168 (am 16)), (ad 17, aI E 168 f37)] := hD
              refine lv_iconst (v := 1) hx hb dX8_tells_137 (by decide) ?_
              refine xrz hx hb hr hlocks (by first | rfl | decide | exact b1_narrow _) hP hD hS ⟨(am 15), (am 16), f37, rfl, ?_⟩ dX8_tells_138
              exact Or.inl ⟨i, hi, rfl, hopen, c5, c6, (by unfold may; rw [if_pos c7]; exact c25), rfl, Or.inl ⟨jj, hjjj, z31, rfl, rfl, by assumption⟩⟩
      · skip
        refine lv_iconst (v := 0) hx hb dX8_tells_24 (by decide) ?_
        refine xrz hx hb hr hlocks (by first | rfl | decide | exact b1_narrow _) hP hD hS ⟨(am 15), (am 16), (am 17), rfl, ?_⟩ dX8_tells_25
        exact Or.inr ⟨fun ⟨i9, h1, h2, h3, _, h4, _⟩ => c6 h4, rfl, rfl, rfl, rfl⟩
