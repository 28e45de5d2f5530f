/-- what about answers, as the reference has it -/
def mabt (z role ver : Int32) (sn : Nat) (rk : Int32) (tn dn pn : Nat) : Int32 := if z = 0 then role else if z = 1 then ver else if z = 2 then nI sn else if z = 3 then btsI rk 20 else if z = 4 then nI tn else if z = 5 then nI dn else if z = 6 then nI pn else -1

abbrev pX8_sign (E : xE) (mo : Nat) (ad : Nat → Nat) (th : Int32) (kn : Nat) (rn : Nat) (mn : Nat) (dp : Nat) (am : Nat → Nat → Int32) (al : Nat → Nat → Int64) (pq : Nat → Nat → Nat) (a29 : Nat → Int32) (a30 : Nat → Int32) (a34 : Nat → Int32) (a35 : Nat → Int32) (a36 : Nat → Int32) (y : Int32) (z : Int32) (r : Int64) (w : va_W) : Prop := ∃ (m2 : Nat) (g29 : Nat → Int32) (g30 : Nat → Int32) (g34 : Nat → Int32) (g35 : Nat → Int32) (g36 : Nat → Int32) (g24 : Nat → Int32) (g25 : Nat → Int32) (g26 : Nat → Int64), w = [(mo, .inr (9, mOb ad 0 (nI kn) (nI rn) (nI m2) (nI dp))), (ad 29, aI E 256 g29), (ad 30, aI E 32 g30), (ad 34, aI E 16 g34), (ad 35, aI E 8 g35), (ad 36, aI E 8 g36), (ad 24, aI E 24 g24), (ad 25, aI E 288 g25), (ad 26, aJ E 288 g26)] ∧ ((∃ i k, i < rn ∧ y = nI i ∧ k < kn ∧ z = nI k ∧ pq i 14 < 12 ∧ r = mSig (uB8 (al 3 k) ++ mB am al pq i) ∧ g24 = upd (am 24) i (nI (pq i 14 + 1)) ∧ g25 = upd (am 25) (12 * i + pq i 14) (nI k) ∧ g26 = vp_updL (al 26) (12 * i + pq i 14) (mSig (uB8 (al 3 k) ++ mB am al pq i))) ∨ (¬ (∃ i, i < rn ∧ y = nI i ∧ isN z kn ∧ pq i 14 < 12) ∧ r = 0 ∧ g24 = am 24 ∧ g25 = am 25 ∧ g26 = al 26))
set_option maxHeartbeats 4000000 in
set_option maxRecDepth 100000 in
theorem kX8_sign (l : Launch) (E : xE) (mo : Nat) (ad : Nat → Nat) (th : Int32) (kn : Nat) (rn : Nat) (mn : Nat) (dp : Nat) (am : Nat → Nat → Int32) (al : Nat → Nat → Int64) (pq : Nat → Nat → Nat) (a29 : Nat → Int32) (a30 : Nat → Int32) (a34 : Nat → Int32) (a35 : Nat → Int32) (a36 : Nat → Int32) (y : Int32) (z : Int32) (hmk : mOk rn am pq) (hrn : rn ≤ 24) (hkn : kn ≤ 20) (hfs : ∀ k, k < 8 → am 32 k = sFS k) (hst : ∀ k, k < 64 → am 33 k = sRC k) : KT l yX8_sign wsX8_sign 6 143 0 0 E [(mo, .inr (9, mOb ad th (nI kn) (nI rn) (nI mn) (nI dp))), (ad 29, aI E 256 a29), (ad 30, aI E 32 a30), (ad 34, aI E 16 a34), (ad 35, aI E 8 a35), (ad 36, aI E 8 a36), (ad 24, aI E 24 (am 24)), (ad 25, aI E 288 (am 25)), (ad 26, aJ E 288 (al 26))] [(ad 3, aJ E 20 (al 3)), (ad 14, aJ E 24 (al 14)), (ad 32, aI E 8 (am 32)), (ad 33, aI E 64 (am 33)), (ad 8, aI E 240 (am 8)), (ad 9, aI E 240 (am 9)), (ad 10, aI E 24 (am 10)), (ad 11, aI E 24 (am 11)), (ad 12, aI E 24 (am 12)), (ad 13, aI E 384 (am 13)), (ad 15, aI E 24 (am 15)), (ad 16, aI E 168 (am 16)), (ad 17, aI E 168 (am 17)), (ad 18, aI E 24 (am 18)), (ad 19, aI E 144 (am 19)), (ad 20, aI E 144 (am 20)), (ad 21, aZ E 144 (am 21)), (ad 22, aI E 24 (am 22)), (ad 23, aI E 144 (am 23))] [.ref mo, .int y, .int z] (QL E (pX8_sign E mo ad th kn rn mn dp am al pq a29 a30 a34 a35 a36 y z)) := by
  refine KT.start (cc := cX8_sign) (maxL := 5) (ret := (some .long)) (by decide) rfl (Nat.le_of_ble_eq_true rfl) ?_
  intro p e s m below meth c A H hx hb hr hlocks hml hts hown hin hP hR0 hD hap hev hz hA hS ls hl
  have hl : lv_has ls 5 [(0, .ref mo), (1, .int y), (2, .int z)] := hl
  have hiX8 : ∀ w ∈ wsX80, w ∈ wsX8_sign := fun _ h => List.mem_cons_of_mem _ (List.mem_append_right _ h)
  have hf192 := hts (.fieldLink RX8 192 "SignQuorumModel" "thrown" "I") (by decide +kernel)
  have hf75 := hts (.fieldLink RX8 75 "SignQuorumModel" "signatures" "[I") (by decide +kernel)
  refine lv_aload_n hx hb dX8_sign_0 rfl (lv_at hl 0 rfl) ?_
  refine lv_iconst (v := 0) hx hb dX8_sign_1 (by decide) ?_
  refine xpt TX8_0 (v := 0) hx hb hts hiX8 hown hev.1 hP hD hS 0 rfl (by decide) hf192 (Nat.le_of_ble_eq_true rfl) dX8_sign_2 (fun H locs hP hD hS => ?_)
  have hP : va_P E.1 vwCl [(mo, .inr (9, mOb ad 0 (nI kn) (nI rn) (nI mn) (nI dp))), (ad 29, aI E 256 a29), (ad 30, aI E 32 a30), (ad 34, aI E 16 a34), (ad 35, aI E 8 a35), (ad 36, aI E 8 a36), (ad 24, aI E 24 (am 24)), (ad 25, aI E 288 (am 25)), (ad 26, aJ E 288 (al 26))] H := hP
  have hD : va_D A [(mo, .inr (9, mOb ad 0 (nI kn) (nI rn) (nI mn) (nI dp))), (ad 29, aI E 256 a29), (ad 30, aI E 32 a30), (ad 34, aI E 16 a34), (ad 35, aI E 8 a35), (ad 36, aI E 8 a36), (ad 24, aI E 24 (am 24)), (ad 25, aI E 288 (am 25)), (ad 26, aJ E 288 (al 26))] := hD
  refine lv_aload_n hx hb dX8_sign_5 rfl (lv_at hl 0 rfl) ?_
  refine lv_iload_n hx hb dX8_sign_6 rfl (lv_at hl 1 rfl) ?_
  have hP := hP.sub (ws' := [] ++ [(mo, .inr (9, mOb ad 0 (nI kn) (nI rn) (nI mn) (nI dp))), (ad 29, aI E 256 a29), (ad 30, aI E 32 a30), (ad 34, aI E 16 a34), (ad 35, aI E 8 a35), (ad 36, aI E 8 a36), (ad 24, aI E 24 (am 24)), (ad 25, aI E 288 (am 25)), (ad 26, aJ E 288 (al 26))]) [0, 1, 2, 3, 4, 5, 6, 7, 8] rfl
  have hD := hD.sub (ws' := [] ++ [(mo, .inr (9, mOb ad 0 (nI kn) (nI rn) (nI mn) (nI dp))), (ad 29, aI E 256 a29), (ad 30, aI E 32 a30), (ad 34, aI E 16 a34), (ad 35, aI E 8 a35), (ad 36, aI E 8 a36), (ad 24, aI E 24 (am 24)), (ad 25, aI E 288 (am 25)), (ad 26, aJ E 288 (al 26))]) [0, 1, 2, 3, 4, 5, 6, 7, 8] (by decide) rfl
  refine xci (va_runV (As := [.int y]) (rest := []) ⟨hx, hb, hml, hown, hts⟩ (kX8_isRow l E mo ad 0 kn rn mn dp y (by first | assumption | omega) H.size) (cwV 1 hts gX8_sign_X8_isRow rfl rfl rfl (by decide +kernel) ⟨Nat.le_of_ble_eq_true rfl, Nat.le_of_ble_eq_true rfl⟩) ⟨CP.blind, (va_recv hev.1 hP (ci := 9) (q0 := 0) rfl rfl), (xpre hev hz hA hP hD hS hR0 hap [0] rfl)⟩ rfl rfl hl.1 rfl (lv_room (Nat.le_of_ble_eq_true rfl)) dX8_sign_7 ⟨Nat.le_of_ble_eq_true rfl, Nat.le_of_ble_eq_true rfl⟩) hP hD hS hA (fun r1 w2 H locs h3 hP hD hS => ?_)
  obtain ⟨rfl, rfl, h3⟩ := h3
  try dsimp only at h3
  have hP : va_P E.1 vwCl [(mo, .inr (9, mOb ad 0 (nI kn) (nI rn) (nI mn) (nI dp))), (ad 29, aI E 256 a29), (ad 30, aI E 32 a30), (ad 34, aI E 16 a34), (ad 35, aI E 8 a35), (ad 36, aI E 8 a36), (ad 24, aI E 24 (am 24)), (ad 25, aI E 288 (am 25)), (ad 26, aJ E 288 (al 26))] H := hP
  have hD : va_D A [(mo, .inr (9, mOb ad 0 (nI kn) (nI rn) (nI mn) (nI dp))), (ad 29, aI E 256 a29), (ad 30, aI E 32 a30), (ad 34, aI E 16 a34), (ad 35, aI E 8 a35), (ad 36, aI E 8 a36), (ad 24, aI E 24 (am 24)), (ad 25, aI E 288 (am 25)), (ad 26, aJ E 288 (al 26))] := hD
  refine lv_if_eq (tgt := 32) hx hb dX8_sign_10 (by decide) (fun c4 => ?_) (fun c4 => ?_)
  · skip
    have kc4 := b1_0.mp c4
    refine lv_lconst (v := 0) hx hb dX8_sign_32 (by decide) ?_
    refine xrl hx hb hr hlocks hP hD hS ⟨mn, a29, a30, a34, a35, a36, (am 24), (am 25), (al 26), rfl, ?_⟩ dX8_sign_33
    exact Or.inr ⟨fun ⟨i9, h1, h2, _⟩ => kc4 ⟨i9, h1, h2⟩, rfl, rfl, rfl, rfl⟩
  · skip
    have kc4 := b1_n.mp c4
    obtain ⟨i, hi, rfl⟩ := kc4
    obtain ⟨h10, h12, h15, h18, h22, h24, hb10, hb12, hb15, hb18, hb22, hb24⟩ := hmk i (hi)
    refine lv_aload_n hx hb dX8_sign_13 rfl (lv_at hl 0 rfl) ?_
    refine lv_iload_n hx hb dX8_sign_14 rfl (lv_at hl 2 rfl) ?_
    have hP := hP.sub (ws' := [] ++ [(mo, .inr (9, mOb ad 0 (nI kn) (nI rn) (nI mn) (nI dp))), (ad 29, aI E 256 a29), (ad 30, aI E 32 a30), (ad 34, aI E 16 a34), (ad 35, aI E 8 a35), (ad 36, aI E 8 a36), (ad 24, aI E 24 (am 24)), (ad 25, aI E 288 (am 25)), (ad 26, aJ E 288 (al 26))]) [0, 1, 2, 3, 4, 5, 6, 7, 8] rfl
    have hD := hD.sub (ws' := [] ++ [(mo, .inr (9, mOb ad 0 (nI kn) (nI rn) (nI mn) (nI dp))), (ad 29, aI E 256 a29), (ad 30, aI E 32 a30), (ad 34, aI E 16 a34), (ad 35, aI E 8 a35), (ad 36, aI E 8 a36), (ad 24, aI E 24 (am 24)), (ad 25, aI E 288 (am 25)), (ad 26, aJ E 288 (al 26))]) [0, 1, 2, 3, 4, 5, 6, 7, 8] (by decide) rfl
    refine xci (va_runV (As := [.int z]) (rest := []) ⟨hx, hb, hml, hown, hts⟩ (kX8_isKey l E mo ad 0 kn rn mn dp z (by first | assumption | omega) H.size) (cwV 1 hts gX8_sign_X8_isKey rfl rfl rfl (by decide +kernel) ⟨Nat.le_of_ble_eq_true rfl, Nat.le_of_ble_eq_true rfl⟩) ⟨CP.blind, (va_recv hev.1 hP (ci := 9) (q0 := 0) rfl rfl), (xpre hev hz hA hP hD hS hR0 hap [0] rfl)⟩ rfl rfl hl.1 rfl (lv_room (Nat.le_of_ble_eq_true rfl)) dX8_sign_15 ⟨Nat.le_of_ble_eq_true rfl, Nat.le_of_ble_eq_true rfl⟩) hP hD hS hA (fun r5 w6 H locs h7 hP hD hS => ?_)
    obtain ⟨rfl, rfl, h7⟩ := h7
    try dsimp only at h7
    have hP : va_P E.1 vwCl [(mo, .inr (9, mOb ad 0 (nI kn) (nI rn) (nI mn) (nI dp))), (ad 29, aI E 256 a29), (ad 30, aI E 32 a30), (ad 34, aI E 16 a34), (ad 35, aI E 8 a35), (ad 36, aI E 8 a36), (ad 24, aI E 24 (am 24)), (ad 25, aI E 288 (am 25)), (ad 26, aJ E 288 (al 26))] H := hP
    have hD : va_D A [(mo, .inr (9, mOb ad 0 (nI kn) (nI rn) (nI mn) (nI dp))), (ad 29, aI E 256 a29), (ad 30, aI E 32 a30), (ad 34, aI E 16 a34), (ad 35, aI E 8 a35), (ad 36, aI E 8 a36), (ad 24, aI E 24 (am 24)), (ad 25, aI E 288 (am 25)), (ad 26, aJ E 288 (al 26))] := hD
    refine lv_if_eq (tgt := 32) hx hb dX8_sign_18 (by decide) (fun c8 => ?_) (fun c8 => ?_)
    · skip
      have kc8 := b1_0.mp c8
      refine lv_lconst (v := 0) hx hb dX8_sign_32 (by decide) ?_
      refine xrl hx hb hr hlocks hP hD hS ⟨mn, a29, a30, a34, a35, a36, (am 24), (am 25), (al 26), rfl, ?_⟩ dX8_sign_33
      exact Or.inr ⟨fun ⟨i9, _, _, h3, _⟩ => kc8 h3, rfl, rfl, rfl, rfl⟩
    · skip
      have kc8 := b1_n.mp c8
      obtain ⟨k, hk, rfl⟩ := kc8
      refine lv_aload_n hx hb dX8_sign_21 rfl (lv_at hl 0 rfl) ?_
      refine xgt TX8_24 (v := .ref (ad 24)) hx hb hts hiX8 hown hev.1 hP 0 rfl (by decide) hf75 rfl dX8_sign_22 ?_
      refine lv_iload_n hx hb dX8_sign_25 rfl (lv_at hl 1 rfl) ?_
      refine xiald (k := (i)) hx hb hev.1 hP 6 1 rfl rfl (by omega) (by decide) dX8_sign_26 ?_
      refine xtop (y := nI (pq i 14)) (h24) ?_
      refine lv_bipush (v := 12) hx hb dX8_sign_27 (by decide) ?_
      refine lv_icmp_ne (tgt := 34) hx hb dX8_sign_29 (by decide) (fun c9 => ?_) (fun c9 => ?_)
      · skip
        have kc9 : ¬ (pq i 14) = 12 := fun h9 => c9 ((nI_eq (a := (pq i 14)) (b := 12) (by omega) (by omega)).mpr h9)
        refine lv_aload_n hx hb dX8_sign_34 rfl (lv_at hl 0 rfl) ?_
        refine lv_iload_n hx hb dX8_sign_35 rfl (lv_at hl 1 rfl) ?_
        refine lv_iload_n hx hb dX8_sign_36 rfl (lv_at hl 2 rfl) ?_
        have hP := hP.sub (ws' := [(mo, .inr (9, mOb ad 0 (nI kn) (nI rn) (nI mn) (nI dp))), (ad 29, aI E 256 a29), (ad 30, aI E 32 a30), (ad 34, aI E 16 a34), (ad 35, aI E 8 a35), (ad 36, aI E 8 a36)] ++ [(ad 24, aI E 24 (am 24)), (ad 25, aI E 288 (am 25)), (ad 26, aJ E 288 (al 26))]) [0, 1, 2, 3, 4, 5, 6, 7, 8] rfl
        have hD := hD.sub (ws' := [(mo, .inr (9, mOb ad 0 (nI kn) (nI rn) (nI mn) (nI dp))), (ad 29, aI E 256 a29), (ad 30, aI E 32 a30), (ad 34, aI E 16 a34), (ad 35, aI E 8 a35), (ad 36, aI E 8 a36)] ++ [(ad 24, aI E 24 (am 24)), (ad 25, aI E 288 (am 25)), (ad 26, aJ E 288 (al 26))]) [0, 1, 2, 3, 4, 5, 6, 7, 8] (by decide) rfl
        refine xcl (va_runV (As := [.int (nI i), .int (nI k)]) (rest := []) ⟨hx, hb, hml, hown, hts⟩ (kX8_rightOne l E mo ad 0 kn rn mn dp a29 a30 a34 a35 a36 (al 3) (al 14) (am 32) (am 33) (am 8) (am 9) (am 10) (am 11) (am 12) (am 13) (am 15) (am 16) (am 17) (am 18) (am 19) (am 20) (am 21) (am 22) (am 23) i (pq i 17) (pq i 12) (pq i 15) (pq i 16) (pq i 13) k (by first | assumption | omega) (by first | assumption | omega) (by first | assumption | omega) (by first | assumption | omega) (by first | assumption | omega) (by first | assumption | omega) (by first | assumption | omega) (by first | assumption | omega) (by first | assumption | omega) (by first | assumption | omega) (by first | assumption | omega) (by first | assumption | omega) (by first | assumption | omega) (by first | assumption | omega) H.size) (cwV 2 hts gX8_sign_X8_rightOne rfl rfl rfl (by decide +kernel) ⟨Nat.le_of_ble_eq_true rfl, Nat.le_of_ble_eq_true rfl⟩) ⟨CP.blind, (va_recv hev.1 hP.left (ci := 9) (q0 := 0) rfl rfl), (xpre hev hz hA hP hD hS hR0 hap [3, 4, 5, 6, 7, 8, 9, 10, 11, 12, 13, 14, 15, 16, 17, 18, 19, 20, 21] rfl)⟩ rfl rfl hl.1 rfl (lv_room (Nat.le_of_ble_eq_true rfl)) dX8_sign_37 ⟨Nat.le_of_ble_eq_true rfl, Nat.le_of_ble_eq_true rfl⟩) hP hD hS hA (fun r10 w11 H locs h12 hP hD hS => ?_)
        obtain ⟨m213, g2914, g3015, g3416, g3517, g3618, rfl, rfl, h12⟩ := h12
        try dsimp only at h12
        have hP : va_P E.1 vwCl [(mo, .inr (9, mOb ad 0 (nI kn) (nI rn) (nI m213) (nI dp))), (ad 29, aI E 256 g2914), (ad 30, aI E 32 g3015), (ad 34, aI E 16 g3416), (ad 35, aI E 8 g3517), (ad 36, aI E 8 g3618), (ad 24, aI E 24 (am 24)), (ad 25, aI E 288 (am 25)), (ad 26, aJ E 288 (al 26))] H := hP
        have hD : va_D A [(mo, .inr (9, mOb ad 0 (nI kn) (nI rn) (nI m213) (nI dp))), (ad 29, aI E 256 g2914), (ad 30, aI E 32 g3015), (ad 34, aI E 16 g3416), (ad 35, aI E 8 g3517), (ad 36, aI E 8 g3618), (ad 24, aI E 24 (am 24)), (ad 25, aI E 288 (am 25)), (ad 26, aJ E 288 (al 26))] := hD
        refine xtopl (y := mSig (uB8 (al 3 k) ++ mB am al pq i)) (rfl) ?_
        refine lv_lstore_n (lv' := [(3, .long (mSig (uB8 (al 3 k) ++ mB am al pq i))), (0, .ref mo), (1, .int (nI i)), (2, .int (nI k))]) hx hb dX8_sign_40 rfl hl (by decide) rfl (fun ls hl => ?_)
        refine lv_aload_n hx hb dX8_sign_41 rfl (lv_at hl 1 rfl) ?_
        refine lv_iload_n hx hb dX8_sign_42 rfl (lv_at hl 2 rfl) ?_
        refine lv_iload_n hx hb dX8_sign_43 rfl (lv_at hl 3 rfl) ?_
        refine lv_lload_n hx hb dX8_sign_44 rfl (lv_at hl 0 rfl) ?_
        have hP := hP.sub (ws' := [(ad 24, aI E 24 (am 24)), (ad 25, aI E 288 (am 25)), (ad 26, aJ E 288 (al 26))] ++ [(mo, .inr (9, mOb ad 0 (nI kn) (nI rn) (nI m213) (nI dp))), (ad 29, aI E 256 g2914), (ad 30, aI E 32 g3015), (ad 34, aI E 16 g3416), (ad 35, aI E 8 g3517), (ad 36, aI E 8 g3618)]) [6, 7, 8, 0, 1, 2, 3, 4, 5] rfl
        have hD := hD.sub (ws' := [(ad 24, aI E 24 (am 24)), (ad 25, aI E 288 (am 25)), (ad 26, aJ E 288 (al 26))] ++ [(mo, .inr (9, mOb ad 0 (nI kn) (nI rn) (nI m213) (nI dp))), (ad 29, aI E 256 g2914), (ad 30, aI E 32 g3015), (ad 34, aI E 16 g3416), (ad 35, aI E 8 g3517), (ad 36, aI E 8 g3618)]) [6, 7, 8, 0, 1, 2, 3, 4, 5] (by decide) rfl
        refine xcv (va_runV (As := [.int (nI i), .int (nI k), .long (mSig (uB8 (al 3 k) ++ mB am al pq i))]) (rest := []) ⟨hx, hb, hml, hown, hts⟩ (kX8_addSignature l E mo ad 0 kn rn m213 dp (am 24) (am 25) (al 26) i (pq i 14) (nI k) (mSig (uB8 (al 3 k) ++ mB am al pq i)) (by first | assumption | omega) (by first | assumption | omega) (by first | assumption | omega) H.size) (cwV 3 hts gX8_sign_X8_addSignature rfl rfl rfl (by decide +kernel) ⟨Nat.le_of_ble_eq_true rfl, Nat.le_of_ble_eq_true rfl⟩) ⟨CP.blind, (va_recv hev.1 hP (ci := 9) (q0 := 3) rfl rfl), (xpre hev hz hA hP hD hS hR0 hap [0] rfl)⟩ rfl rfl hl.1 rfl (lv_room (Nat.le_of_ble_eq_true rfl)) dX8_sign_45 ⟨Nat.le_of_ble_eq_true rfl, Nat.le_of_ble_eq_true rfl⟩) hP hD hS hA (fun w20 H locs h21 hP hD hS => ?_)
        obtain ⟨g2422, g2523, g2624, rfl, h21⟩ := h21
        try dsimp only at h21
        have hP : va_P E.1 vwCl [(ad 24, aI E 24 g2422), (ad 25, aI E 288 g2523), (ad 26, aJ E 288 g2624), (mo, .inr (9, mOb ad 0 (nI kn) (nI rn) (nI m213) (nI dp))), (ad 29, aI E 256 g2914), (ad 30, aI E 32 g3015), (ad 34, aI E 16 g3416), (ad 35, aI E 8 g3517), (ad 36, aI E 8 g3618)] H := hP
        have hD : va_D A [(ad 24, aI E 24 g2422), (ad 25, aI E 288 g2523), (ad 26, aJ E 288 g2624), (mo, .inr (9, mOb ad 0 (nI kn) (nI rn) (nI m213) (nI dp))), (ad 29, aI E 256 g2914), (ad 30, aI E 32 g3015), (ad 34, aI E 16 g3416), (ad 35, aI E 8 g3517), (ad 36, aI E 8 g3618)] := hD
        refine lv_lload_n hx hb dX8_sign_48 rfl (lv_at hl 0 rfl) ?_
        refine xrl hx hb hr hlocks (hP.sub (ws' := [(mo, .inr (9, mOb ad 0 (nI kn) (nI rn) (nI m213) (nI dp))), (ad 29, aI E 256 g2914), (ad 30, aI E 32 g3015), (ad 34, aI E 16 g3416), (ad 35, aI E 8 g3517), (ad 36, aI E 8 g3618), (ad 24, aI E 24 g2422), (ad 25, aI E 288 g2523), (ad 26, aJ E 288 g2624)]) [3, 4, 5, 6, 7, 8, 0, 1, 2] rfl) (hD.sub (ws' := [(mo, .inr (9, mOb ad 0 (nI kn) (nI rn) (nI m213) (nI dp))), (ad 29, aI E 256 g2914), (ad 30, aI E 32 g3015), (ad 34, aI E 16 g3416), (ad 35, aI E 8 g3517), (ad 36, aI E 8 g3618), (ad 24, aI E 24 g2422), (ad 25, aI E 288 g2523), (ad 26, aJ E 288 g2624)]) [3, 4, 5, 6, 7, 8, 0, 1, 2] (by decide) rfl) hS ⟨m213, g2914, g3015, g3416, g3517, g3618, g2422, g2523, g2624, rfl, ?_⟩ dX8_sign_49
        exact Or.inl ⟨i, k, hi, rfl, hk, rfl, by omega, rfl, h21⟩
      · skip
        have kc9 : (pq i 14) = 12 := (nI_eq (a := (pq i 14)) (b := 12) (by omega) (by omega)).mp c9
        refine lv_lconst (v := 0) hx hb dX8_sign_32 (by decide) ?_
        refine xrl hx hb hr hlocks hP hD hS ⟨mn, a29, a30, a34, a35, a36, (am 24), (am 25), (al 26), rfl, ?_⟩ dX8_sign_33
        exact Or.inr ⟨(fun ⟨i9, h1, h2, h3, h4⟩ => by have e9 := (nI_eq (by omega) (by omega)).mp h2; subst e9; omega), rfl, rfl, rfl, rfl⟩

abbrev pX8_forge (E : xE) (mo : Nat) (ad : Nat → Nat) (th : Int32) (kn : Nat) (rn : Nat) (mn : Nat) (dp : Nat) (am : Nat → Nat → Int32) (al : Nat → Nat → Int64) (pq : Nat → Nat → Nat) (y : Int32) (z : Int32) (sv : Int64) (r : Int32) (w : va_W) : Prop := ∃ (g24 : Nat → Int32) (g25 : Nat → Int32) (g26 : Nat → Int64), w = [(mo, .inr (9, mOb ad 0 (nI kn) (nI rn) (nI mn) (nI dp))), (ad 24, aI E 24 g24), (ad 25, aI E 288 g25), (ad 26, aJ E 288 g26)] ∧ ((∃ i k, i < rn ∧ y = nI i ∧ k < kn ∧ z = nI k ∧ pq i 14 < 12 ∧ r = 1 ∧ g24 = upd (am 24) i (nI (pq i 14 + 1)) ∧ g25 = upd (am 25) (12 * i + pq i 14) (nI k) ∧ g26 = vp_updL (al 26) (12 * i + pq i 14) (sv)) ∨ (¬ (∃ i, i < rn ∧ y = nI i ∧ isN z kn ∧ pq i 14 < 12) ∧ r = 0 ∧ g24 = am 24 ∧ g25 = am 25 ∧ g26 = al 26))
set_option maxHeartbeats 4000000 in
set_option maxRecDepth 100000 in
theorem kX8_forge (l : Launch) (E : xE) (mo : Nat) (ad : Nat → Nat) (th : Int32) (kn : Nat) (rn : Nat) (mn : Nat) (dp : Nat) (am : Nat → Nat → Int32) (al : Nat → Nat → Int64) (pq : Nat → Nat → Nat) (y : Int32) (z : Int32) (sv : Int64) (hmk : mOk rn am pq) (hrn : rn ≤ 24) (hkn : kn ≤ 20) : KT l yX8_forge wsX8_forge 1 24 0 0 E [(mo, .inr (9, mOb ad th (nI kn) (nI rn) (nI mn) (nI dp))), (ad 24, aI E 24 (am 24)), (ad 25, aI E 288 (am 25)), (ad 26, aJ E 288 (al 26))] [] [.ref mo, .int y, .int z, .long sv] (QI E (pX8_forge E mo ad th kn rn mn dp am al pq y z sv)) := by
  refine KT.start (cc := cX8_forge) (maxL := 5) (ret := (some .boolean)) (by decide) rfl (Nat.le_of_ble_eq_true rfl) ?_
  intro p e s m below meth c A H hx hb hr hlocks hml hts hown hin hP hR0 hD hap hev hz hA hS ls hl
  have hl : lv_has ls 5 [(0, .ref mo), (1, .int y), (2, .int z), (3, .long sv)] := hl
  have hiX8 : ∀ w ∈ wsX80, w ∈ wsX8_forge := fun _ h => List.mem_cons_of_mem _ (List.mem_append_right _ h)
  have hf192 := hts (.fieldLink RX8 192 "SignQuorumModel" "thrown" "I") (by decide +kernel)
  have hf75 := hts (.fieldLink RX8 75 "SignQuorumModel" "signatures" "[I") (by decide +kernel)
  refine lv_aload_n hx hb dX8_forge_0 rfl (lv_at hl 0 rfl) ?_
  refine lv_iconst (v := 0) hx hb dX8_forge_1 (by decide) ?_
  refine xpt TX8_0 (v := 0) hx hb hts hiX8 hown hev.1 hP hD hS 0 rfl (by decide) hf192 (Nat.le_of_ble_eq_true rfl) dX8_forge_2 (fun H locs hP hD hS => ?_)
  have hP : va_P E.1 vwCl [(mo, .inr (9, mOb ad 0 (nI kn) (nI rn) (nI mn) (nI dp))), (ad 24, aI E 24 (am 24)), (ad 25, aI E 288 (am 25)), (ad 26, aJ E 288 (al 26))] H := hP
  have hD : va_D A [(mo, .inr (9, mOb ad 0 (nI kn) (nI rn) (nI mn) (nI dp))), (ad 24, aI E 24 (am 24)), (ad 25, aI E 288 (am 25)), (ad 26, aJ E 288 (al 26))] := hD
  refine lv_aload_n hx hb dX8_forge_5 rfl (lv_at hl 0 rfl) ?_
  refine lv_iload_n hx hb dX8_forge_6 rfl (lv_at hl 1 rfl) ?_
  have hP := hP.sub (ws' := [] ++ [(mo, .inr (9, mOb ad 0 (nI kn) (nI rn) (nI mn) (nI dp))), (ad 24, aI E 24 (am 24)), (ad 25, aI E 288 (am 25)), (ad 26, aJ E 288 (al 26))]) [0, 1, 2, 3] rfl
  have hD := hD.sub (ws' := [] ++ [(mo, .inr (9, mOb ad 0 (nI kn) (nI rn) (nI mn) (nI dp))), (ad 24, aI E 24 (am 24)), (ad 25, aI E 288 (am 25)), (ad 26, aJ E 288 (al 26))]) [0, 1, 2, 3] (by decide) rfl
  refine xci (va_runV (As := [.int y]) (rest := []) ⟨hx, hb, hml, hown, hts⟩ (kX8_isRow l E mo ad 0 kn rn mn dp y (by first | assumption | omega) H.size) (cwV 1 hts gX8_forge_X8_isRow rfl rfl rfl (by decide +kernel) ⟨Nat.le_of_ble_eq_true rfl, Nat.le_of_ble_eq_true rfl⟩) ⟨CP.blind, (va_recv hev.1 hP (ci := 9) (q0 := 0) rfl rfl), (xpre hev hz hA hP hD hS hR0 hap [0] rfl)⟩ rfl rfl hl.1 rfl (lv_room (Nat.le_of_ble_eq_true rfl)) dX8_forge_7 ⟨Nat.le_of_ble_eq_true rfl, Nat.le_of_ble_eq_true rfl⟩) hP hD hS hA (fun r1 w2 H locs h3 hP hD hS => ?_)
  obtain ⟨rfl, rfl, h3⟩ := h3
  try dsimp only at h3
  have hP : va_P E.1 vwCl [(mo, .inr (9, mOb ad 0 (nI kn) (nI rn) (nI mn) (nI dp))), (ad 24, aI E 24 (am 24)), (ad 25, aI E 288 (am 25)), (ad 26, aJ E 288 (al 26))] H := hP
  have hD : va_D A [(mo, .inr (9, mOb ad 0 (nI kn) (nI rn) (nI mn) (nI dp))), (ad 24, aI E 24 (am 24)), (ad 25, aI E 288 (am 25)), (ad 26, aJ E 288 (al 26))] := hD
  refine lv_if_eq (tgt := 32) hx hb dX8_forge_10 (by decide) (fun c4 => ?_) (fun c4 => ?_)
  · skip
    have kc4 := b1_0.mp c4
    refine lv_iconst (v := 0) hx hb dX8_forge_32 (by decide) ?_
    refine xrz hx hb hr hlocks (by first | rfl | decide | exact b1_narrow _) hP hD hS ⟨(am 24), (am 25), (al 26), rfl, ?_⟩ dX8_forge_33
    exact Or.inr ⟨fun ⟨i9, h1, h2, _⟩ => kc4 ⟨i9, h1, h2⟩, rfl, rfl, rfl, rfl⟩
  · skip
    have kc4 := b1_n.mp c4
    obtain ⟨i, hi, rfl⟩ := kc4
    obtain ⟨h10, h12, h15, h18, h22, h24, hb10, hb12, hb15, hb18, hb22, hb24⟩ := hmk i (hi)
    refine lv_aload_n hx hb dX8_forge_13 rfl (lv_at hl 0 rfl) ?_
    refine lv_iload_n hx hb dX8_forge_14 rfl (lv_at hl 2 rfl) ?_
    have hP := hP.sub (ws' := [] ++ [(mo, .inr (9, mOb ad 0 (nI kn) (nI rn) (nI mn) (nI dp))), (ad 24, aI E 24 (am 24)), (ad 25, aI E 288 (am 25)), (ad 26, aJ E 288 (al 26))]) [0, 1, 2, 3] rfl
    have hD := hD.sub (ws' := [] ++ [(mo, .inr (9, mOb ad 0 (nI kn) (nI rn) (nI mn) (nI dp))), (ad 24, aI E 24 (am 24)), (ad 25, aI E 288 (am 25)), (ad 26, aJ E 288 (al 26))]) [0, 1, 2, 3] (by decide) rfl
    refine xci (va_runV (As := [.int z]) (rest := []) ⟨hx, hb, hml, hown, hts⟩ (kX8_isKey l E mo ad 0 kn rn mn dp z (by first | assumption | omega) H.size) (cwV 1 hts gX8_forge_X8_isKey rfl rfl rfl (by decide +kernel) ⟨Nat.le_of_ble_eq_true rfl, Nat.le_of_ble_eq_true rfl⟩) ⟨CP.blind, (va_recv hev.1 hP (ci := 9) (q0 := 0) rfl rfl), (xpre hev hz hA hP hD hS hR0 hap [0] rfl)⟩ rfl rfl hl.1 rfl (lv_room (Nat.le_of_ble_eq_true rfl)) dX8_forge_15 ⟨Nat.le_of_ble_eq_true rfl, Nat.le_of_ble_eq_true rfl⟩) hP hD hS hA (fun r5 w6 H locs h7 hP hD hS => ?_)
    obtain ⟨rfl, rfl, h7⟩ := h7
    try dsimp only at h7
    have hP : va_P E.1 vwCl [(mo, .inr (9, mOb ad 0 (nI kn) (nI rn) (nI mn) (nI dp))), (ad 24, aI E 24 (am 24)), (ad 25, aI E 288 (am 25)), (ad 26, aJ E 288 (al 26))] H := hP
    have hD : va_D A [(mo, .inr (9, mOb ad 0 (nI kn) (nI rn) (nI mn) (nI dp))), (ad 24, aI E 24 (am 24)), (ad 25, aI E 288 (am 25)), (ad 26, aJ E 288 (al 26))] := hD
    refine lv_if_eq (tgt := 32) hx hb dX8_forge_18 (by decide) (fun c8 => ?_) (fun c8 => ?_)
    · skip
      have kc8 := b1_0.mp c8
      refine lv_iconst (v := 0) hx hb dX8_forge_32 (by decide) ?_
      refine xrz hx hb hr hlocks (by first | rfl | decide | exact b1_narrow _) hP hD hS ⟨(am 24), (am 25), (al 26), rfl, ?_⟩ dX8_forge_33
      exact Or.inr ⟨fun ⟨i9, _, _, h3, _⟩ => kc8 h3, rfl, rfl, rfl, rfl⟩
    · skip
      have kc8 := b1_n.mp c8
      obtain ⟨k, hk, rfl⟩ := kc8
      refine lv_aload_n hx hb dX8_forge_21 rfl (lv_at hl 0 rfl) ?_
      refine xgt TX8_24 (v := .ref (ad 24)) hx hb hts hiX8 hown hev.1 hP 0 rfl (by decide) hf75 rfl dX8_forge_22 ?_
      refine lv_iload_n hx hb dX8_forge_25 rfl (lv_at hl 1 rfl) ?_
      refine xiald (k := (i)) hx hb hev.1 hP 1 1 rfl rfl (by omega) (by decide) dX8_forge_26 ?_
      refine xtop (y := nI (pq i 14)) (h24) ?_
      refine lv_bipush (v := 12) hx hb dX8_forge_27 (by decide) ?_
      refine lv_icmp_ne (tgt := 34) hx hb dX8_forge_29 (by decide) (fun c9 => ?_) (fun c9 => ?_)
      · skip
        have kc9 : ¬ (pq i 14) = 12 := fun h9 => c9 ((nI_eq (a := (pq i 14)) (b := 12) (by omega) (by omega)).mpr h9)
        refine lv_aload_n hx hb dX8_forge_34 rfl (lv_at hl 0 rfl) ?_
        refine lv_iload_n hx hb dX8_forge_35 rfl (lv_at hl 1 rfl) ?_
        refine lv_iload_n hx hb dX8_forge_36 rfl (lv_at hl 2 rfl) ?_
        refine lv_lload_n hx hb dX8_forge_37 rfl (lv_at hl 3 rfl) ?_
        have hP := hP.sub (ws' := [(ad 24, aI E 24 (am 24)), (ad 25, aI E 288 (am 25)), (ad 26, aJ E 288 (al 26))] ++ [(mo, .inr (9, mOb ad 0 (nI kn) (nI rn) (nI mn) (nI dp)))]) [1, 2, 3, 0] rfl
        have hD := hD.sub (ws' := [(ad 24, aI E 24 (am 24)), (ad 25, aI E 288 (am 25)), (ad 26, aJ E 288 (al 26))] ++ [(mo, .inr (9, mOb ad 0 (nI kn) (nI rn) (nI mn) (nI dp)))]) [1, 2, 3, 0] (by decide) rfl
        refine xcv (va_runV (As := [.int (nI i), .int (nI k), .long sv]) (rest := []) ⟨hx, hb, hml, hown, hts⟩ (kX8_addSignature l E mo ad 0 kn rn mn dp (am 24) (am 25) (al 26) i (pq i 14) (nI k) sv (by first | assumption | omega) (by first | assumption | omega) (by first | assumption | omega) H.size) (cwV 3 hts gX8_forge_X8_addSignature rfl rfl rfl (by decide +kernel) ⟨Nat.le_of_ble_eq_true rfl, Nat.le_of_ble_eq_true rfl⟩) ⟨CP.blind, (va_recv hev.1 hP (ci := 9) (q0 := 3) rfl rfl), (xpre hev hz hA hP hD hS hR0 hap [0] rfl)⟩ rfl rfl hl.1 rfl (lv_room (Nat.le_of_ble_eq_true rfl)) dX8_forge_38 ⟨Nat.le_of_ble_eq_true rfl, Nat.le_of_ble_eq_true rfl⟩) hP hD hS hA (fun w11 H locs h12 hP hD hS => ?_)
        obtain ⟨g2413, g2514, g2615, rfl, h12⟩ := h12
        try dsimp only at h12
        have hP : va_P E.1 vwCl [(ad 24, aI E 24 g2413), (ad 25, aI E 288 g2514), (ad 26, aJ E 288 g2615), (mo, .inr (9, mOb ad 0 (nI kn) (nI rn) (nI mn) (nI dp)))] H := hP
        have hD : va_D A [(ad 24, aI E 24 g2413), (ad 25, aI E 288 g2514), (ad 26, aJ E 288 g2615), (mo, .inr (9, mOb ad 0 (nI kn) (nI rn) (nI mn) (nI dp)))] := hD
        refine lv_iconst (v := 1) hx hb dX8_forge_41 (by decide) ?_
        refine xrz hx hb hr hlocks (by first | rfl | decide | exact b1_narrow _) (hP.sub (ws' := [(mo, .inr (9, mOb ad 0 (nI kn) (nI rn) (nI mn) (nI dp))), (ad 24, aI E 24 g2413), (ad 25, aI E 288 g2514), (ad 26, aJ E 288 g2615)]) [3, 0, 1, 2] rfl) (hD.sub (ws' := [(mo, .inr (9, mOb ad 0 (nI kn) (nI rn) (nI mn) (nI dp))), (ad 24, aI E 24 g2413), (ad 25, aI E 288 g2514), (ad 26, aJ E 288 g2615)]) [3, 0, 1, 2] (by decide) rfl) hS ⟨g2413, g2514, g2615, rfl, ?_⟩ dX8_forge_42
        exact Or.inl ⟨i, k, hi, rfl, hk, rfl, by omega, rfl, h12⟩
      · skip
        have kc9 : (pq i 14) = 12 := (nI_eq (a := (pq i 14)) (b := 12) (by omega) (by omega)).mp c9
        refine lv_iconst (v := 0) hx hb dX8_forge_32 (by decide) ?_
        refine xrz hx hb hr hlocks (by first | rfl | decide | exact b1_narrow _) hP hD hS ⟨(am 24), (am 25), (al 26), rfl, ?_⟩ dX8_forge_33
        exact Or.inr ⟨(fun ⟨i9, h1, h2, h3, h4⟩ => by have e9 := (nI_eq (by omega) (by omega)).mp h2; subst e9; omega), rfl, rfl, rfl, rfl⟩

abbrev pX8_verify (E : xE) (mo : Nat) (ad : Nat → Nat) (th : Int32) (kn : Nat) (rn : Nat) (mn : Nat) (dp : Nat) (am : Nat → Nat → Int32) (al : Nat → Nat → Int64) (pq : Nat → Nat → Nat) (ci : Nat → Option Nat) (a29 : Nat → Int32) (a30 : Nat → Int32) (a34 : Nat → Int32) (a35 : Nat → Int32) (a36 : Nat → Int32) (q : Nat) (t : Int64) (r : Int32) (w : va_W) : Prop := ∃ (m2 : Nat) (g29 : Nat → Int32) (g30 : Nat → Int32) (g34 : Nat → Int32) (g35 : Nat → Int32) (g36 : Nat → Int32), w = [(mo, .inr (9, mOb ad 0 (nI kn) (nI rn) (nI m2) (nI dp))), (ad 29, aI E 256 g29), (ad 30, aI E 32 g30), (ad 34, aI E 16 g34), (ad 35, aI E 8 g35), (ad 36, aI E 8 g36)] ∧ ((mrl kn ci am al pq t q = 0 ∧ r = 1) ∨ (¬ mrl kn ci am al pq t q = 0 ∧ r = -(nI (mrl kn ci am al pq t q))))
set_option maxHeartbeats 4000000 in
set_option maxRecDepth 100000 in
theorem kX8_verify (l : Launch) (E : xE) (mo : Nat) (ad : Nat → Nat) (th : Int32) (kn : Nat) (rn : Nat) (mn : Nat) (dp : Nat) (am : Nat → Nat → Int32) (al : Nat → Nat → Int64) (pq : Nat → Nat → Nat) (ci : Nat → Option Nat) (a29 : Nat → Int32) (a30 : Nat → Int32) (a34 : Nat → Int32) (a35 : Nat → Int32) (a36 : Nat → Int32) (q : Nat) (t : Int64) (hmk : mOk rn am pq) (hnw : ∀ j, j < 10 → am 27 j = nw ci j) (hci : ∀ j i, ci j = some i → i < rn) (hrn : rn ≤ 24) (hq : q < rn) (hkn : kn ≤ 20) (hfs : ∀ k, k < 8 → am 32 k = sFS k) (hst : ∀ k, k < 64 → am 33 k = sRC k) : KT l yX8_verify wsX8_verify 9 221 0 0 E [(mo, .inr (9, mOb ad th (nI kn) (nI rn) (nI mn) (nI dp))), (ad 29, aI E 256 a29), (ad 30, aI E 32 a30), (ad 34, aI E 16 a34), (ad 35, aI E 8 a35), (ad 36, aI E 8 a36)] [(ad 3, aJ E 20 (al 3)), (ad 14, aJ E 24 (al 14)), (ad 32, aI E 8 (am 32)), (ad 33, aI E 64 (am 33)), (ad 8, aI E 240 (am 8)), (ad 9, aI E 240 (am 9)), (ad 10, aI E 24 (am 10)), (ad 11, aI E 24 (am 11)), (ad 12, aI E 24 (am 12)), (ad 13, aI E 384 (am 13)), (ad 15, aI E 24 (am 15)), (ad 16, aI E 168 (am 16)), (ad 17, aI E 168 (am 17)), (ad 18, aI E 24 (am 18)), (ad 19, aI E 144 (am 19)), (ad 20, aI E 144 (am 20)), (ad 21, aZ E 144 (am 21)), (ad 22, aI E 24 (am 22)), (ad 23, aI E 144 (am 23)), (ad 24, aI E 24 (am 24)), (ad 25, aI E 288 (am 25)), (ad 26, aJ E 288 (al 26)), (ad 4, aJ E 20 (al 4)), (ad 5, aZ E 20 (am 5)), (ad 27, aI E 10 (am 27))] [.ref mo, .int (nI q), .long t] (QI E (pX8_verify E mo ad th kn rn mn dp am al pq ci a29 a30 a34 a35 a36 q t)) := by
  refine KT.start (cc := cX8_verify) (maxL := 5) (ret := (some .int)) (by decide) rfl (Nat.le_of_ble_eq_true rfl) ?_
  intro p e s m below meth c A H hx hb hr hlocks hml hts hown hin hP hR0 hD hap hev hz hA hS ls hl
  have hl : lv_has ls 5 [(0, .ref mo), (1, .int (nI q)), (2, .long t)] := hl
  have hiX8 : ∀ w ∈ wsX80, w ∈ wsX8_verify := fun _ h => List.mem_cons_of_mem _ (List.mem_append_right _ h)
  have hf192 := hts (.fieldLink RX8 192 "SignQuorumModel" "thrown" "I") (by decide +kernel)
  have hmr := mrl_le kn ci am al pq t q
  refine lv_aload_n hx hb dX8_verify_0 rfl (lv_at hl 0 rfl) ?_
  refine lv_iconst (v := 0) hx hb dX8_verify_1 (by decide) ?_
  refine xpt TX8_0 (v := 0) hx hb hts hiX8 hown hev.1 hP hD hS 0 rfl (by decide) hf192 (Nat.le_of_ble_eq_true rfl) dX8_verify_2 (fun H locs hP hD hS => ?_)
  have hP : va_P E.1 vwCl [(mo, .inr (9, mOb ad 0 (nI kn) (nI rn) (nI mn) (nI dp))), (ad 29, aI E 256 a29), (ad 30, aI E 32 a30), (ad 34, aI E 16 a34), (ad 35, aI E 8 a35), (ad 36, aI E 8 a36)] H := hP
  have hD : va_D A [(mo, .inr (9, mOb ad 0 (nI kn) (nI rn) (nI mn) (nI dp))), (ad 29, aI E 256 a29), (ad 30, aI E 32 a30), (ad 34, aI E 16 a34), (ad 35, aI E 8 a35), (ad 36, aI E 8 a36)] := hD
  refine lv_aload_n hx hb dX8_verify_5 rfl (lv_at hl 0 rfl) ?_
  refine lv_iload_n hx hb dX8_verify_6 rfl (lv_at hl 1 rfl) ?_
  refine lv_lload_n hx hb dX8_verify_7 rfl (lv_at hl 2 rfl) ?_
  have hP := hP.sub (ws' := [(mo, .inr (9, mOb ad 0 (nI kn) (nI rn) (nI mn) (nI dp))), (ad 29, aI E 256 a29), (ad 30, aI E 32 a30), (ad 34, aI E 16 a34), (ad 35, aI E 8 a35), (ad 36, aI E 8 a36)] ++ []) [0, 1, 2, 3, 4, 5] rfl
  have hD := hD.sub (ws' := [(mo, .inr (9, mOb ad 0 (nI kn) (nI rn) (nI mn) (nI dp))), (ad 29, aI E 256 a29), (ad 30, aI E 32 a30), (ad 34, aI E 16 a34), (ad 35, aI E 8 a35), (ad 36, aI E 8 a36)] ++ []) [0, 1, 2, 3, 4, 5] (by decide) rfl
  refine xci (va_runV (As := [.int (nI q), .long t]) (rest := []) ⟨hx, hb, hml, hown, hts⟩ (kX8_rule l E mo ad 0 kn rn mn dp am al pq ci a29 a30 a34 a35 a36 q t (by first | assumption | omega) (by first | assumption | omega) (by first | assumption | omega) (by first | assumption | omega) (by first | assumption | omega) (by first | assumption | omega) (by first | assumption | omega) (by first | assumption | omega) H.size) (cwV 2 hts gX8_verify_X8_rule rfl rfl rfl (by decide +kernel) ⟨Nat.le_of_ble_eq_true rfl, Nat.le_of_ble_eq_true rfl⟩) ⟨CP.blind, (va_recv hev.1 hP.left (ci := 9) (q0 := 0) rfl rfl), (xpre hev hz hA hP hD hS hR0 hap [0, 1, 2, 3, 4, 5, 6, 7, 8, 9, 10, 11, 12, 13, 14, 15, 16, 17, 18, 19, 20, 21, 22, 23, 24] rfl)⟩ rfl rfl hl.1 rfl (lv_room (Nat.le_of_ble_eq_true rfl)) dX8_verify_8 ⟨Nat.le_of_ble_eq_true rfl, Nat.le_of_ble_eq_true rfl⟩) hP hD hS hA (fun r1 w2 H locs h3 hP hD hS => ?_)
  obtain ⟨m24, g295, g306, g347, g358, g369, rfl, rfl, h3⟩ := h3
  try dsimp only at h3
  have hP : va_P E.1 vwCl [(mo, .inr (9, mOb ad 0 (nI kn) (nI rn) (nI m24) (nI dp))), (ad 29, aI E 256 g295), (ad 30, aI E 32 g306), (ad 34, aI E 16 g347), (ad 35, aI E 8 g358), (ad 36, aI E 8 g369)] H := hP
  have hD : va_D A [(mo, .inr (9, mOb ad 0 (nI kn) (nI rn) (nI m24) (nI dp))), (ad 29, aI E 256 g295), (ad 30, aI E 32 g306), (ad 34, aI E 16 g347), (ad 35, aI E 8 g358), (ad 36, aI E 8 g369)] := hD
  refine lv_istore (lv' := [(4, .int (nI (mrl kn ci am al pq t q))), (0, .ref mo), (1, .int (nI q)), (2, .long t)]) hx hb dX8_verify_11 hl (by decide) rfl (fun ls hl => ?_)
  refine lv_iload hx hb dX8_verify_13 (lv_at hl 0 rfl) ?_
  refine lv_if_ne (tgt := 22) hx hb dX8_verify_15 (by decide) (fun c10 => ?_) (fun c10 => ?_)
  · skip
    have kc10 : ¬ (mrl kn ci am al pq t q) = 0 := fun h9 => c10 ((nI_eq (a := (mrl kn ci am al pq t q)) (b := 0) (by omega) (by omega)).mpr h9)
    refine lv_iload hx hb dX8_verify_22 (lv_at hl 0 rfl) ?_
    refine lv_ineg hx hb dX8_verify_24 ?_
    refine xri hx hb hr hlocks hP hD hS ⟨m24, g295, g306, g347, g358, g369, rfl, ?_⟩ dX8_verify_25
    exact Or.inr ⟨by assumption, rfl⟩
  · skip
    have kc10 : (mrl kn ci am al pq t q) = 0 := (nI_eq (a := (mrl kn ci am al pq t q)) (b := 0) (by omega) (by omega)).mp c10
    refine lv_iconst (v := 1) hx hb dX8_verify_18 (by decide) ?_
    refine lv_goto (tgt := 25) hx hb dX8_verify_19 (by decide) ?_
    refine xri hx hb hr hlocks hP hD hS ⟨m24, g295, g306, g347, g358, g369, rfl, ?_⟩ dX8_verify_25
    exact Or.inl ⟨by assumption, rfl⟩

abbrev pX8_verifyN (E : xE) (mo : Nat) (ad : Nat → Nat) (th : Int32) (kn : Nat) (rn : Nat) (mn : Nat) (dp : Nat) (y : Int32) (t : Int64) (r : Int32) (w : va_W) : Prop := w = [(mo, .inr (9, mOb ad 0 (nI kn) (nI rn) (nI mn) (nI dp)))] ∧ r = -1 ∧ (True)
set_option maxHeartbeats 4000000 in
set_option maxRecDepth 100000 in
theorem kX8_verifyN (l : Launch) (E : xE) (mo : Nat) (ad : Nat → Nat) (th : Int32) (kn : Nat) (rn : Nat) (mn : Nat) (dp : Nat) (y : Int32) (t : Int64) (hrn : rn ≤ 24) (hno : ¬ isN y rn) : KT l yX8_verify wsX8_verify 2 47 0 0 E [(mo, .inr (9, mOb ad th (nI kn) (nI rn) (nI mn) (nI dp)))] [] [.ref mo, .int y, .long t] (QI E (pX8_verifyN E mo ad th kn rn mn dp y t)) := by
  refine KT.start (cc := cX8_verify) (maxL := 5) (ret := (some .int)) (by decide) rfl (Nat.le_of_ble_eq_true rfl) ?_
  intro p e s m below meth c A H hx hb hr hlocks hml hts hown hin hP hR0 hD hap hev hz hA hS ls hl
  have hl : lv_has ls 5 [(0, .ref mo), (1, .int y), (2, .long t)] := hl
  have hiX8 : ∀ w ∈ wsX80, w ∈ wsX8_verify := fun _ h => List.mem_cons_of_mem _ (List.mem_append_right _ h)
  have hf192 := hts (.fieldLink RX8 192 "SignQuorumModel" "thrown" "I") (by decide +kernel)
  refine lv_aload_n hx hb dX8_verify_0 rfl (lv_at hl 0 rfl) ?_
  refine lv_iconst (v := 0) hx hb dX8_verify_1 (by decide) ?_
  refine xpt TX8_0 (v := 0) hx hb hts hiX8 hown hev.1 hP hD hS 0 rfl (by decide) hf192 (Nat.le_of_ble_eq_true rfl) dX8_verify_2 (fun H locs hP hD hS => ?_)
  have hP : va_P E.1 vwCl [(mo, .inr (9, mOb ad 0 (nI kn) (nI rn) (nI mn) (nI dp)))] H := hP
  have hD : va_D A [(mo, .inr (9, mOb ad 0 (nI kn) (nI rn) (nI mn) (nI dp)))] := hD
  refine lv_aload_n hx hb dX8_verify_5 rfl (lv_at hl 0 rfl) ?_
  refine lv_iload_n hx hb dX8_verify_6 rfl (lv_at hl 1 rfl) ?_
  refine lv_lload_n hx hb dX8_verify_7 rfl (lv_at hl 2 rfl) ?_
  have hP := hP.sub (ws' := [] ++ [(mo, .inr (9, mOb ad 0 (nI kn) (nI rn) (nI mn) (nI dp)))]) [0] rfl
  have hD := hD.sub (ws' := [] ++ [(mo, .inr (9, mOb ad 0 (nI kn) (nI rn) (nI mn) (nI dp)))]) [0] (by decide) rfl
  refine xci (va_runV (As := [.int y, .long t]) (rest := []) ⟨hx, hb, hml, hown, hts⟩ (kX8_ruleN l E mo ad 0 kn rn mn dp y t (by first | assumption | omega) (by first | assumption | omega) H.size) (cwV 2 hts gX8_verify_X8_rule rfl rfl rfl (by decide +kernel) ⟨Nat.le_of_ble_eq_true rfl, Nat.le_of_ble_eq_true rfl⟩) ⟨CP.blind, (va_recv hev.1 hP (ci := 9) (q0 := 0) rfl rfl), (xpre hev hz hA hP hD hS hR0 hap [0] rfl)⟩ rfl rfl hl.1 rfl (lv_room (Nat.le_of_ble_eq_true rfl)) dX8_verify_8 ⟨Nat.le_of_ble_eq_true rfl, Nat.le_of_ble_eq_true rfl⟩) hP hD hS hA (fun r1 w2 H locs h3 hP hD hS => ?_)
  obtain ⟨rfl, rfl, h3⟩ := h3
  try dsimp only at h3
  have hP : va_P E.1 vwCl [(mo, .inr (9, mOb ad 0 (nI kn) (nI rn) (nI mn) (nI dp)))] H := hP
  have hD : va_D A [(mo, .inr (9, mOb ad 0 (nI kn) (nI rn) (nI mn) (nI dp)))] := hD
  refine lv_istore (lv' := [(4, .int 1), (0, .ref mo), (1, .int y), (2, .long t)]) hx hb dX8_verify_11 hl (by decide) rfl (fun ls hl => ?_)
  refine lv_iload hx hb dX8_verify_13 (lv_at hl 0 rfl) ?_
  refine lv_if_ne (tgt := 22) hx hb dX8_verify_15 (by decide) (fun c4 => ?_) (fun c4 => absurd c4 (by decide))
  refine lv_iload hx hb dX8_verify_22 (lv_at hl 0 rfl) ?_
  refine lv_ineg hx hb dX8_verify_24 ?_
  refine xri hx hb hr hlocks hP hD hS ⟨rfl, ?_, ?_⟩ dX8_verify_25
  · rfl
  · trivial

abbrev pX8_update (E : xE) (mo : Nat) (ad : Nat → Nat) (th : Int32) (kn : Nat) (rn : Nat) (mn : Nat) (dp : Nat) (am : Nat → Nat → Int32) (al : Nat → Nat → Int64) (pq : Nat → Nat → Nat) (ci : Nat → Option Nat) (a29 : Nat → Int32) (a30 : Nat → Int32) (a34 : Nat → Int32) (a35 : Nat → Int32) (a36 : Nat → Int32) (q : Nat) (t : Int64) (r : Int32) (w : va_W) : Prop := ∃ (m2 : Nat) (g29 : Nat → Int32) (g30 : Nat → Int32) (g34 : Nat → Int32) (g35 : Nat → Int32) (g36 : Nat → Int32) (g27 : Nat → Int32), w = [(mo, .inr (9, mOb ad 0 (nI kn) (nI rn) (nI m2) (nI dp))), (ad 29, aI E 256 g29), (ad 30, aI E 32 g30), (ad 34, aI E 16 g34), (ad 35, aI E 8 g35), (ad 36, aI E 8 g36), (ad 27, aI E 10 g27)] ∧ ((mrl kn ci am al pq t q = 0 ∧ r = 1 ∧ g27 = upd (am 27) (pq q 17) (nI q)) ∨ (¬ mrl kn ci am al pq t q = 0 ∧ r = -(nI (mrl kn ci am al pq t q)) ∧ g27 = am 27))
set_option maxHeartbeats 4000000 in
set_option maxRecDepth 100000 in
theorem kX8_update (l : Launch) (E : xE) (mo : Nat) (ad : Nat → Nat) (th : Int32) (kn : Nat) (rn : Nat) (mn : Nat) (dp : Nat) (am : Nat → Nat → Int32) (al : Nat → Nat → Int64) (pq : Nat → Nat → Nat) (ci : Nat → Option Nat) (a29 : Nat → Int32) (a30 : Nat → Int32) (a34 : Nat → Int32) (a35 : Nat → Int32) (a36 : Nat → Int32) (q : Nat) (t : Int64) (hmk : mOk rn am pq) (hnw : ∀ j, j < 10 → am 27 j = nw ci j) (hci : ∀ j i, ci j = some i → i < rn) (hrn : rn ≤ 24) (hq : q < rn) (hkn : kn ≤ 20) (hfs : ∀ k, k < 8 → am 32 k = sFS k) (hst : ∀ k, k < 64 → am 33 k = sRC k) : KT l yX8_update wsX8_update 9 221 0 0 E [(mo, .inr (9, mOb ad th (nI kn) (nI rn) (nI mn) (nI dp))), (ad 29, aI E 256 a29), (ad 30, aI E 32 a30), (ad 34, aI E 16 a34), (ad 35, aI E 8 a35), (ad 36, aI E 8 a36), (ad 27, aI E 10 (am 27))] [(ad 3, aJ E 20 (al 3)), (ad 14, aJ E 24 (al 14)), (ad 32, aI E 8 (am 32)), (ad 33, aI E 64 (am 33)), (ad 8, aI E 240 (am 8)), (ad 9, aI E 240 (am 9)), (ad 10, aI E 24 (am 10)), (ad 11, aI E 24 (am 11)), (ad 12, aI E 24 (am 12)), (ad 13, aI E 384 (am 13)), (ad 15, aI E 24 (am 15)), (ad 16, aI E 168 (am 16)), (ad 17, aI E 168 (am 17)), (ad 18, aI E 24 (am 18)), (ad 19, aI E 144 (am 19)), (ad 20, aI E 144 (am 20)), (ad 21, aZ E 144 (am 21)), (ad 22, aI E 24 (am 22)), (ad 23, aI E 144 (am 23)), (ad 24, aI E 24 (am 24)), (ad 25, aI E 288 (am 25)), (ad 26, aJ E 288 (al 26)), (ad 4, aJ E 20 (al 4)), (ad 5, aZ E 20 (am 5))] [.ref mo, .int (nI q), .long t] (QI E (pX8_update E mo ad th kn rn mn dp am al pq ci a29 a30 a34 a35 a36 q t)) := by
  refine KT.start (cc := cX8_update) (maxL := 5) (ret := (some .int)) (by decide) rfl (Nat.le_of_ble_eq_true rfl) ?_
  intro p e s m below meth c A H hx hb hr hlocks hml hts hown hin hP hR0 hD hap hev hz hA hS ls hl
  have hl : lv_has ls 5 [(0, .ref mo), (1, .int (nI q)), (2, .long t)] := hl
  have hiX8 : ∀ w ∈ wsX80, w ∈ wsX8_update := fun _ h => List.mem_cons_of_mem _ (List.mem_append_right _ h)
  have hf192 := hts (.fieldLink RX8 192 "SignQuorumModel" "thrown" "I") (by decide +kernel)
  have hf33 := hts (.fieldLink RX8 33 "SignQuorumModel" "kind" "[I") (by decide +kernel)
  have hf84 := hts (.fieldLink RX8 84 "SignQuorumModel" "now" "[I") (by decide +kernel)
  have hmr := mrl_le kn ci am al pq t q
  obtain ⟨h10, h12, h15, h18, h22, h24, hb10, hb12, hb15, hb18, hb22, hb24⟩ := hmk q (hq)
  refine lv_aload_n hx hb dX8_update_0 rfl (lv_at hl 0 rfl) ?_
  refine lv_iconst (v := 0) hx hb dX8_update_1 (by decide) ?_
  refine xpt TX8_0 (v := 0) hx hb hts hiX8 hown hev.1 hP hD hS 0 rfl (by decide) hf192 (Nat.le_of_ble_eq_true rfl) dX8_update_2 (fun H locs hP hD hS => ?_)
  have hP : va_P E.1 vwCl [(mo, .inr (9, mOb ad 0 (nI kn) (nI rn) (nI mn) (nI dp))), (ad 29, aI E 256 a29), (ad 30, aI E 32 a30), (ad 34, aI E 16 a34), (ad 35, aI E 8 a35), (ad 36, aI E 8 a36), (ad 27, aI E 10 (am 27))] H := hP
  have hD : va_D A [(mo, .inr (9, mOb ad 0 (nI kn) (nI rn) (nI mn) (nI dp))), (ad 29, aI E 256 a29), (ad 30, aI E 32 a30), (ad 34, aI E 16 a34), (ad 35, aI E 8 a35), (ad 36, aI E 8 a36), (ad 27, aI E 10 (am 27))] := hD
  refine lv_aload_n hx hb dX8_update_5 rfl (lv_at hl 0 rfl) ?_
  refine lv_iload_n hx hb dX8_update_6 rfl (lv_at hl 1 rfl) ?_
  refine lv_lload_n hx hb dX8_update_7 rfl (lv_at hl 2 rfl) ?_
  have hP := hP.sub (ws' := [(mo, .inr (9, mOb ad 0 (nI kn) (nI rn) (nI mn) (nI dp))), (ad 29, aI E 256 a29), (ad 30, aI E 32 a30), (ad 34, aI E 16 a34), (ad 35, aI E 8 a35), (ad 36, aI E 8 a36)] ++ [(ad 27, aI E 10 (am 27))]) [0, 1, 2, 3, 4, 5, 6] rfl
  have hD := hD.sub (ws' := [(mo, .inr (9, mOb ad 0 (nI kn) (nI rn) (nI mn) (nI dp))), (ad 29, aI E 256 a29), (ad 30, aI E 32 a30), (ad 34, aI E 16 a34), (ad 35, aI E 8 a35), (ad 36, aI E 8 a36)] ++ [(ad 27, aI E 10 (am 27))]) [0, 1, 2, 3, 4, 5, 6] (by decide) rfl
  refine xci (va_runV (As := [.int (nI q), .long t]) (rest := []) ⟨hx, hb, hml, hown, hts⟩ (kX8_rule l E mo ad 0 kn rn mn dp am al pq ci a29 a30 a34 a35 a36 q t (by first | assumption | omega) (by first | assumption | omega) (by first | assumption | omega) (by first | assumption | omega) (by first | assumption | omega) (by first | assumption | omega) (by first | assumption | omega) (by first | assumption | omega) H.size) (cwV 2 hts gX8_update_X8_rule rfl rfl rfl (by decide +kernel) ⟨Nat.le_of_ble_eq_true rfl, Nat.le_of_ble_eq_true rfl⟩) ⟨CP.blind, (va_recv hev.1 hP.left (ci := 9) (q0 := 0) rfl rfl), (xpre hev hz hA hP hD hS hR0 hap [1, 2, 3, 4, 5, 6, 7, 8, 9, 10, 11, 12, 13, 14, 15, 16, 17, 18, 19, 20, 21, 22, 23, 24, 0] rfl)⟩ rfl rfl hl.1 rfl (lv_room (Nat.le_of_ble_eq_true rfl)) dX8_update_8 ⟨Nat.le_of_ble_eq_true rfl, Nat.le_of_ble_eq_true rfl⟩) hP hD hS hA (fun r1 w2 H locs h3 hP hD hS => ?_)
  obtain ⟨m24, g295, g306, g347, g358, g369, rfl, rfl, h3⟩ := h3
  try dsimp only at h3
  have hP : va_P E.1 vwCl [(mo, .inr (9, mOb ad 0 (nI kn) (nI rn) (nI m24) (nI dp))), (ad 29, aI E 256 g295), (ad 30, aI E 32 g306), (ad 34, aI E 16 g347), (ad 35, aI E 8 g358), (ad 36, aI E 8 g369), (ad 27, aI E 10 (am 27))] H := hP
  have hD : va_D A [(mo, .inr (9, mOb ad 0 (nI kn) (nI rn) (nI m24) (nI dp))), (ad 29, aI E 256 g295), (ad 30, aI E 32 g306), (ad 34, aI E 16 g347), (ad 35, aI E 8 g358), (ad 36, aI E 8 g369), (ad 27, aI E 10 (am 27))] := hD
  refine lv_istore (lv' := [(4, .int (nI (mrl kn ci am al pq t q))), (0, .ref mo), (1, .int (nI q)), (2, .long t)]) hx hb dX8_update_11 hl (by decide) rfl (fun ls hl => ?_)
  refine lv_iload hx hb dX8_update_13 (lv_at hl 0 rfl) ?_
  refine lv_if_le (tgt := 22) hx hb dX8_update_15 (by decide) (fun c10 => ?_) (fun c10 => ?_)
  · skip
    have kc10 : (mrl kn ci am al pq t q) ≤ 0 := (nI_leI (a := (mrl kn ci am al pq t q)) (b := 0) (by omega) (by omega)).mp c10
    refine lv_aload_n hx hb dX8_update_22 rfl (lv_at hl 1 rfl) ?_
    refine xgt TX8_27 (v := .ref (ad 27)) hx hb hts hiX8 hown hev.1 hP 0 rfl (by decide) hf84 rfl dX8_update_23 ?_
    refine lv_aload_n hx hb dX8_update_26 rfl (lv_at hl 1 rfl) ?_
    refine xgt TX8_10 (v := .ref (ad 10)) hx hb hts hiX8 hown hev.1 hP 0 rfl (by decide) hf33 rfl dX8_update_27 ?_
    refine lv_iload_n hx hb dX8_update_30 rfl (lv_at hl 2 rfl) ?_
    refine xiald (k := (q)) hx hb hev.1 (xro hR0 hap hS) 6 1 rfl rfl (by omega) (by decide) dX8_update_31 ?_
    refine xtop (y := nI (pq q 17)) (h10) ?_
    refine lv_iload_n hx hb dX8_update_32 rfl (lv_at hl 2 rfl) ?_
    refine xiast (k := pq q 17) hx hb hev.1 hP hD hS 6 1 rfl rfl (by omega) (by decide) dX8_update_33 (fun H locs hP hD hS => ?_)
    obtain ⟨f11, ef11⟩ : ∃ y9_ : Nat → Int32, y9_ = upd (am 27) (pq q 17) (nI q) := ⟨_, rfl⟩
    rw [← ef11] at hP hD
    have hP : va_P E.1 vwCl [(mo, .inr (9, mOb ad 0 (nI kn) (nI rn) (nI m24) (nI dp))), (ad 29, aI E 256 g295), (ad 30, aI E 32 g306), (ad 34, aI E 16 g347), (ad 35, aI E 8 g358), (ad 36, aI E 8 g369), (ad 27, aI E 10 f11)] H := hP
    have hD : va_D A [(mo, .inr (9, mOb ad 0 (nI kn) (nI rn) (nI m24) (nI dp))), (ad 29, aI E 256 g295), (ad 30, aI E 32 g306), (ad 34, aI E 16 g347), (ad 35, aI E 8 g358), (ad 36, aI E 8 g369), (ad 27, aI E 10 f11)] := hD
    refine lv_iconst (v := 1) hx hb dX8_update_34 (by decide) ?_
    refine xri hx hb hr hlocks hP hD hS ⟨m24, g295, g306, g347, g358, g369, f11, rfl, ?_⟩ dX8_update_35
    exact Or.inl ⟨by omega, rfl, by assumption⟩
  · skip
    have kc10 : ¬ (mrl kn ci am al pq t q) ≤ 0 := fun h9 => c10 ((nI_leI (a := (mrl kn ci am al pq t q)) (b := 0) (by omega) (by omega)).mpr h9)
    refine lv_iload hx hb dX8_update_18 (lv_at hl 0 rfl) ?_
    refine lv_ineg hx hb dX8_update_20 ?_
    refine xri hx hb hr hlocks hP hD hS ⟨m24, g295, g306, g347, g358, g369, (am 27), rfl, ?_⟩ dX8_update_21
    exact Or.inr ⟨by omega, rfl, rfl⟩

abbrev pX8_updateN (E : xE) (mo : Nat) (ad : Nat → Nat) (th : Int32) (kn : Nat) (rn : Nat) (mn : Nat) (dp : Nat) (y : Int32) (t : Int64) (r : Int32) (w : va_W) : Prop := w = [(mo, .inr (9, mOb ad 0 (nI kn) (nI rn) (nI mn) (nI dp)))] ∧ r = -1 ∧ (True)
set_option maxHeartbeats 4000000 in
set_option maxRecDepth 100000 in
theorem kX8_updateN (l : Launch) (E : xE) (mo : Nat) (ad : Nat → Nat) (th : Int32) (kn : Nat) (rn : Nat) (mn : Nat) (dp : Nat) (y : Int32) (t : Int64) (hrn : rn ≤ 24) (hno : ¬ isN y rn) : KT l yX8_update wsX8_update 2 47 0 0 E [(mo, .inr (9, mOb ad th (nI kn) (nI rn) (nI mn) (nI dp)))] [] [.ref mo, .int y, .long t] (QI E (pX8_updateN E mo ad th kn rn mn dp y t)) := by
  refine KT.start (cc := cX8_update) (maxL := 5) (ret := (some .int)) (by decide) rfl (Nat.le_of_ble_eq_true rfl) ?_
  intro p e s m below meth c A H hx hb hr hlocks hml hts hown hin hP hR0 hD hap hev hz hA hS ls hl
  have hl : lv_has ls 5 [(0, .ref mo), (1, .int y), (2, .long t)] := hl
  have hiX8 : ∀ w ∈ wsX80, w ∈ wsX8_update := fun _ h => List.mem_cons_of_mem _ (List.mem_append_right _ h)
  have hf192 := hts (.fieldLink RX8 192 "SignQuorumModel" "thrown" "I") (by decide +kernel)
  refine lv_aload_n hx hb dX8_update_0 rfl (lv_at hl 0 rfl) ?_
  refine lv_iconst (v := 0) hx hb dX8_update_1 (by decide) ?_
  refine xpt TX8_0 (v := 0) hx hb hts hiX8 hown hev.1 hP hD hS 0 rfl (by decide) hf192 (Nat.le_of_ble_eq_true rfl) dX8_update_2 (fun H locs hP hD hS => ?_)
  have hP : va_P E.1 vwCl [(mo, .inr (9, mOb ad 0 (nI kn) (nI rn) (nI mn) (nI dp)))] H := hP
  have hD : va_D A [(mo, .inr (9, mOb ad 0 (nI kn) (nI rn) (nI mn) (nI dp)))] := hD
  refine lv_aload_n hx hb dX8_update_5 rfl (lv_at hl 0 rfl) ?_
  refine lv_iload_n hx hb dX8_update_6 rfl (lv_at hl 1 rfl) ?_
  refine lv_lload_n hx hb dX8_update_7 rfl (lv_at hl 2 rfl) ?_
  have hP := hP.sub (ws' := [] ++ [(mo, .inr (9, mOb ad 0 (nI kn) (nI rn) (nI mn) (nI dp)))]) [0] rfl
  have hD := hD.sub (ws' := [] ++ [(mo, .inr (9, mOb ad 0 (nI kn) (nI rn) (nI mn) (nI dp)))]) [0] (by decide) rfl
  refine xci (va_runV (As := [.int y, .long t]) (rest := []) ⟨hx, hb, hml, hown, hts⟩ (kX8_ruleN l E mo ad 0 kn rn mn dp y t (by first | assumption | omega) (by first | assumption | omega) H.size) (cwV 2 hts gX8_update_X8_rule rfl rfl rfl (by decide +kernel) ⟨Nat.le_of_ble_eq_true rfl, Nat.le_of_ble_eq_true rfl⟩) ⟨CP.blind, (va_recv hev.1 hP (ci := 9) (q0 := 0) rfl rfl), (xpre hev hz hA hP hD hS hR0 hap [0] rfl)⟩ rfl rfl hl.1 rfl (lv_room (Nat.le_of_ble_eq_true rfl)) dX8_update_8 ⟨Nat.le_of_ble_eq_true rfl, Nat.le_of_ble_eq_true rfl⟩) hP hD hS hA (fun r1 w2 H locs h3 hP hD hS => ?_)
  obtain ⟨rfl, rfl, h3⟩ := h3
  try dsimp only at h3
  have hP : va_P E.1 vwCl [(mo, .inr (9, mOb ad 0 (nI kn) (nI rn) (nI mn) (nI dp)))] H := hP
  have hD : va_D A [(mo, .inr (9, mOb ad 0 (nI kn) (nI rn) (nI mn) (nI dp)))] := hD
  refine lv_istore (lv' := [(4, .int 1), (0, .ref mo), (1, .int y), (2, .long t)]) hx hb dX8_update_11 hl (by decide) rfl (fun ls hl => ?_)
  refine lv_iload hx hb dX8_update_13 (lv_at hl 0 rfl) ?_
  refine lv_if_le (tgt := 22) hx hb dX8_update_15 (by decide) (fun c4 => absurd c4 (by decide)) (fun c4 => ?_)
  refine lv_iload hx hb dX8_update_18 (lv_at hl 0 rfl) ?_
  refine lv_ineg hx hb dX8_update_20 ?_
  refine xri hx hb hr hlocks hP hD hS ⟨rfl, ?_, ?_⟩ dX8_update_21
  · rfl
  · trivial

abbrev pX8_revoke (E : xE) (mo : Nat) (ad : Nat → Nat) (th : Int32) (kn : Nat) (rn : Nat) (mn : Nat) (dp : Nat) (am : Nat → Nat → Int32) (al : Nat → Nat → Int64) (y : Int32) (r : Int32) (w : va_W) : Prop := ∃ (g5 : Nat → Int32), w = [(mo, .inr (9, mOb ad 0 (nI kn) (nI rn) (nI mn) (nI dp))), (ad 5, aZ E 20 g5)] ∧ ((∃ k, k < kn ∧ y = nI k ∧ am 5 k = 0 ∧ r = 1 ∧ g5 = upd (am 5) k (vp_nar .boolean 1)) ∨ (¬ (∃ k, k < kn ∧ y = nI k ∧ am 5 k = 0) ∧ r = 0 ∧ g5 = am 5))
set_option maxHeartbeats 4000000 in
set_option maxRecDepth 100000 in
theorem kX8_revoke (l : Launch) (E : xE) (mo : Nat) (ad : Nat → Nat) (th : Int32) (kn : Nat) (rn : Nat) (mn : Nat) (dp : Nat) (am : Nat → Nat → Int32) (al : Nat → Nat → Int64) (y : Int32) (hkn : kn ≤ 20) : KT l yX8_revoke wsX8_revoke 1 21 0 0 E [(mo, .inr (9, mOb ad th (nI kn) (nI rn) (nI mn) (nI dp))), (ad 5, aZ E 20 (am 5))] [] [.ref mo, .int y] (QI E (pX8_revoke E mo ad th kn rn mn dp am al y)) := by
  refine KT.start (cc := cX8_revoke) (maxL := 2) (ret := (some .boolean)) (by decide) rfl (Nat.le_of_ble_eq_true rfl) ?_
  intro p e s m below meth c A H hx hb hr hlocks hml hts hown hin hP hR0 hD hap hev hz hA hS ls hl
  have hl : lv_has ls 2 [(0, .ref mo), (1, .int y)] := hl
  have hiX8 : ∀ w ∈ wsX80, w ∈ wsX8_revoke := fun _ h => List.mem_cons_of_mem _ (List.mem_append_right _ h)
  have hf16 := hts (.fieldLink RX8 16 "SignQuorumModel" "gone" "[Z") (by decide +kernel)
  have hf192 := hts (.fieldLink RX8 192 "SignQuorumModel" "thrown" "I") (by decide +kernel)
  refine lv_aload_n hx hb dX8_revoke_0 rfl (lv_at hl 0 rfl) ?_
  refine lv_iconst (v := 0) hx hb dX8_revoke_1 (by decide) ?_
  refine xpt TX8_0 (v := 0) hx hb hts hiX8 hown hev.1 hP hD hS 0 rfl (by decide) hf192 (Nat.le_of_ble_eq_true rfl) dX8_revoke_2 (fun H locs hP hD hS => ?_)
  have hP : va_P E.1 vwCl [(mo, .inr (9, mOb ad 0 (nI kn) (nI rn) (nI mn) (nI dp))), (ad 5, aZ E 20 (am 5))] H := hP
  have hD : va_D A [(mo, .inr (9, mOb ad 0 (nI kn) (nI rn) (nI mn) (nI dp))), (ad 5, aZ E 20 (am 5))] := hD
  refine lv_aload_n hx hb dX8_revoke_5 rfl (lv_at hl 0 rfl) ?_
  refine lv_iload_n hx hb dX8_revoke_6 rfl (lv_at hl 1 rfl) ?_
  have hP := hP.sub (ws' := [] ++ [(mo, .inr (9, mOb ad 0 (nI kn) (nI rn) (nI mn) (nI dp))), (ad 5, aZ E 20 (am 5))]) [0, 1] rfl
  have hD := hD.sub (ws' := [] ++ [(mo, .inr (9, mOb ad 0 (nI kn) (nI rn) (nI mn) (nI dp))), (ad 5, aZ E 20 (am 5))]) [0, 1] (by decide) rfl
  refine xci (va_runV (As := [.int y]) (rest := []) ⟨hx, hb, hml, hown, hts⟩ (kX8_isKey l E mo ad 0 kn rn mn dp y (by first | assumption | omega) H.size) (cwV 1 hts gX8_revoke_X8_isKey rfl rfl rfl (by decide +kernel) ⟨Nat.le_of_ble_eq_true rfl, Nat.le_of_ble_eq_true rfl⟩) ⟨CP.blind, (va_recv hev.1 hP (ci := 9) (q0 := 0) rfl rfl), (xpre hev hz hA hP hD hS hR0 hap [0] rfl)⟩ rfl rfl hl.1 rfl (lv_room (Nat.le_of_ble_eq_true rfl)) dX8_revoke_7 ⟨Nat.le_of_ble_eq_true rfl, Nat.le_of_ble_eq_true rfl⟩) hP hD hS hA (fun r1 w2 H locs h3 hP hD hS => ?_)
  obtain ⟨rfl, rfl, h3⟩ := h3
  try dsimp only at h3
  have hP : va_P E.1 vwCl [(mo, .inr (9, mOb ad 0 (nI kn) (nI rn) (nI mn) (nI dp))), (ad 5, aZ E 20 (am 5))] H := hP
  have hD : va_D A [(mo, .inr (9, mOb ad 0 (nI kn) (nI rn) (nI mn) (nI dp))), (ad 5, aZ E 20 (am 5))] := hD
  refine lv_if_eq (tgt := 22) hx hb dX8_revoke_10 (by decide) (fun c4 => ?_) (fun c4 => ?_)
  · skip
    have kc4 := b1_0.mp c4
    refine lv_iconst (v := 0) hx hb dX8_revoke_22 (by decide) ?_
    refine xrz hx hb hr hlocks (by first | rfl | decide | exact b1_narrow _) hP hD hS ⟨(am 5), rfl, ?_⟩ dX8_revoke_23
    exact Or.inr ⟨fun ⟨i9, h1, h2, _⟩ => kc4 ⟨i9, h1, h2⟩, rfl, rfl⟩
  · skip
    have kc4 := b1_n.mp c4
    obtain ⟨k, hk, rfl⟩ := kc4
    refine lv_aload_n hx hb dX8_revoke_13 rfl (lv_at hl 0 rfl) ?_
    refine xgt TX8_5 (v := .ref (ad 5)) hx hb hts hiX8 hown hev.1 hP 0 rfl (by decide) hf16 rfl dX8_revoke_14 ?_
    refine lv_iload_n hx hb dX8_revoke_17 rfl (lv_at hl 1 rfl) ?_
    refine xzald (k := (k)) hx hb hev.1 hP 1 3 rfl rfl (by omega) (by decide) dX8_revoke_18 ?_
    refine lv_if_eq (tgt := 24) hx hb dX8_revoke_19 (by decide) (fun c5 => ?_) (fun c5 => ?_)
    · skip
      refine lv_aload_n hx hb dX8_revoke_24 rfl (lv_at hl 0 rfl) ?_
      refine xgt TX8_5 (v := .ref (ad 5)) hx hb hts hiX8 hown hev.1 hP 0 rfl (by decide) hf16 rfl dX8_revoke_25 ?_
      refine lv_iload_n hx hb dX8_revoke_28 rfl (lv_at hl 1 rfl) ?_
      refine lv_iconst (v := 1) hx hb dX8_revoke_29 (by decide) ?_
      refine xzast (k := k) hx hb hev.1 hP hD hS 1 3 rfl rfl (by omega) (by decide) dX8_revoke_30 (fun H locs hP hD hS => ?_)
      obtain ⟨f6, ef6⟩ : ∃ y9_ : Nat → Int32, y9_ = upd (am 5) k (vp_nar .boolean 1) := ⟨_, rfl⟩
      rw [← ef6] at hP hD
      have hP : va_P E.1 vwCl [(mo, .inr (9, mOb ad 0 (nI kn) (nI rn) (nI mn) (nI dp))), (ad 5, aZ E 20 f6)] H := hP
      have hD : va_D A [(mo, .inr (9, mOb ad 0 (nI kn) (nI rn) (nI mn) (nI dp))), (ad 5, aZ E 20 f6)] := hD
      refine lv_iconst (v := 1) hx hb dX8_revoke_31 (by decide) ?_
      refine xrz hx hb hr hlocks (by first | rfl | decide | exact b1_narrow _) hP hD hS ⟨f6, rfl, ?_⟩ dX8_revoke_32
      exact Or.inl ⟨k, hk, rfl, c5, rfl, by assumption⟩
    · skip
      refine lv_iconst (v := 0) hx hb dX8_revoke_22 (by decide) ?_
      refine xrz hx hb hr hlocks (by first | rfl | decide | exact b1_narrow _) hP hD hS ⟨(am 5), rfl, ?_⟩ dX8_revoke_23
      exact Or.inr ⟨(fun ⟨i9, h1, h2, h3⟩ => by have e9 := (nI_eq (by omega) (by omega)).mp h2; subst e9; exact c5 h3), rfl, rfl⟩

abbrev pX8_version (E : xE) (mo : Nat) (ad : Nat → Nat) (th : Int32) (kn : Nat) (rn : Nat) (mn : Nat) (dp : Nat) (am : Nat → Nat → Int32) (al : Nat → Nat → Int64) (pq : Nat → Nat → Nat) (ci : Nat → Option Nat) (y : Int32) (r : Int32) (w : va_W) : Prop := w = [(mo, .inr (9, mOb ad 0 (nI kn) (nI rn) (nI mn) (nI dp)))] ∧ ((¬ isN y 10 ∧ r = -1) ∨ ∃ j, j < 10 ∧ y = nI j ∧ ((ci j = none ∧ r = 0) ∨ ∃ i, ci j = some i ∧ r = am 11 i))
set_option maxHeartbeats 4000000 in
set_option maxRecDepth 100000 in
theorem kX8_version (l : Launch) (E : xE) (mo : Nat) (ad : Nat → Nat) (th : Int32) (kn : Nat) (rn : Nat) (mn : Nat) (dp : Nat) (am : Nat → Nat → Int32) (al : Nat → Nat → Int64) (pq : Nat → Nat → Nat) (ci : Nat → Option Nat) (y : Int32) (hmk : mOk rn am pq) (hnw : ∀ j, j < 10 → am 27 j = nw ci j) (hci : ∀ j i, ci j = some i → i < rn) (hrn : rn ≤ 24) : KT l yX8_version wsX8_version 1 20 0 0 E [(mo, .inr (9, mOb ad th (nI kn) (nI rn) (nI mn) (nI dp)))] [(ad 27, aI E 10 (am 27)), (ad 11, aI E 24 (am 11))] [.ref mo, .int y] (QI E (pX8_version E mo ad th kn rn mn dp am al pq ci y)) := by
  refine KT.start (cc := cX8_version) (maxL := 2) (ret := (some .int)) (by decide) rfl (Nat.le_of_ble_eq_true rfl) ?_
  intro p e s m below meth c A H hx hb hr hlocks hml hts hown hin hP hR0 hD hap hev hz hA hS ls hl
  have hl : lv_has ls 2 [(0, .ref mo), (1, .int y)] := hl
  have hiX8 : ∀ w ∈ wsX80, w ∈ wsX8_version := fun _ h => List.mem_cons_of_mem _ (List.mem_append_right _ h)
  have hf192 := hts (.fieldLink RX8 192 "SignQuorumModel" "thrown" "I") (by decide +kernel)
  have hf36 := hts (.fieldLink RX8 36 "SignQuorumModel" "version" "[I") (by decide +kernel)
  have hf84 := hts (.fieldLink RX8 84 "SignQuorumModel" "now" "[I") (by decide +kernel)
  refine lv_aload_n hx hb dX8_version_0 rfl (lv_at hl 0 rfl) ?_
  refine lv_iconst (v := 0) hx hb dX8_version_1 (by decide) ?_
  refine xpt TX8_0 (v := 0) hx hb hts hiX8 hown hev.1 hP hD hS 0 rfl (by decide) hf192 (Nat.le_of_ble_eq_true rfl) dX8_version_2 (fun H locs hP hD hS => ?_)
  have hP : va_P E.1 vwCl [(mo, .inr (9, mOb ad 0 (nI kn) (nI rn) (nI mn) (nI dp)))] H := hP
  have hD : va_D A [(mo, .inr (9, mOb ad 0 (nI kn) (nI rn) (nI mn) (nI dp)))] := hD
  refine lv_iload_n hx hb dX8_version_5 rfl (lv_at hl 1 rfl) ?_
  have hP := hP.sub (ws' := [] ++ [(mo, .inr (9, mOb ad 0 (nI kn) (nI rn) (nI mn) (nI dp)))]) [0] rfl
  have hD := hD.sub (ws' := [] ++ [(mo, .inr (9, mOb ad 0 (nI kn) (nI rn) (nI mn) (nI dp)))]) [0] (by decide) rfl
  refine xci (va_runS (As := [.int y]) (rest := []) ⟨hx, hb, hml, hown, hts⟩ (kX8_isRole l E y  H.size) (va_cwS 1 hts gX8_version_X8_isRole rfl rfl rfl (by decide +kernel) ⟨Nat.le_of_ble_eq_true rfl, Nat.le_of_ble_eq_true rfl⟩) ⟨CP.blind, (xpre hev hz hA hP hD hS hR0 hap [] rfl)⟩ rfl rfl hl.1 rfl (lv_room (Nat.le_of_ble_eq_true rfl)) dX8_version_6 ⟨Nat.le_of_ble_eq_true rfl, Nat.le_of_ble_eq_true rfl⟩) hP hD hS hA (fun r1 w2 H locs h3 hP hD hS => ?_)
  obtain ⟨rfl, rfl, h3⟩ := h3
  try dsimp only at h3
  have hP : va_P E.1 vwCl [(mo, .inr (9, mOb ad 0 (nI kn) (nI rn) (nI mn) (nI dp)))] H := hP
  have hD : va_D A [(mo, .inr (9, mOb ad 0 (nI kn) (nI rn) (nI mn) (nI dp)))] := hD
  refine lv_if_ne (tgt := 16) hx hb dX8_version_9 (by decide) (fun c4 => ?_) (fun c4 => ?_)
  · skip
    have kc4 := b1_n.mp c4
    obtain ⟨j, hj, rfl⟩ := kc4
    refine lv_aload_n hx hb dX8_version_16 rfl (lv_at hl 0 rfl) ?_
    refine xgt TX8_27 (v := .ref (ad 27)) hx hb hts hiX8 hown hev.1 hP 0 rfl (by decide) hf84 rfl dX8_version_17 ?_
    refine lv_iload_n hx hb dX8_version_20 rfl (lv_at hl 1 rfl) ?_
    refine xiald (k := (j)) hx hb hev.1 (xro hR0 hap hS) 0 1 rfl rfl (by omega) (by decide) dX8_version_21 ?_
    cases o5 : ci j with
    | none =>
      refine xtop (y := (-1)) ((hnw _ (by omega)).trans (nw_n o5)) ?_
      refine lv_iconst (v := (-1)) hx hb dX8_version_22 (by decide) ?_
      refine lv_icmp_ne (tgt := 30) hx hb dX8_version_23 (by decide) (fun c6 => absurd c6 (by decide)) (fun c6 => ?_)
      refine lv_iconst (v := 0) hx hb dX8_version_26 (by decide) ?_
      refine lv_goto (tgt := 41) hx hb dX8_version_27 (by decide) ?_
      refine xri hx hb hr hlocks hP hD hS ⟨rfl, ?_⟩ dX8_version_41
      exact Or.inr ⟨j, hj, rfl, Or.inl ⟨o5, rfl⟩⟩
    | some kk =>
      have hkkk : kk < rn := hci _ _ o5
      refine xtop (y := nI kk) ((hnw _ (by omega)).trans (nw_s o5)) ?_
      obtain ⟨h10K, h12K, h15K, h18K, h22K, h24K, hb10K, hb12K, hb15K, hb18K, hb22K, hb24K⟩ := hmk kk (hkkk)
      refine lv_iconst (v := (-1)) hx hb dX8_version_22 (by decide) ?_
      refine lv_icmp_ne (tgt := 30) hx hb dX8_version_23 (by decide) (fun c7 => ?_) (fun c7 => absurd c7 (nI_ne1 (by omega)))
      refine lv_aload_n hx hb dX8_version_30 rfl (lv_at hl 0 rfl) ?_
      refine xgt TX8_11 (v := .ref (ad 11)) hx hb hts hiX8 hown hev.1 hP 0 rfl (by decide) hf36 rfl dX8_version_31 ?_
      refine lv_aload_n hx hb dX8_version_34 rfl (lv_at hl 0 rfl) ?_
      refine xgt TX8_27 (v := .ref (ad 27)) hx hb hts hiX8 hown hev.1 hP 0 rfl (by decide) hf84 rfl dX8_version_35 ?_
      refine lv_iload_n hx hb dX8_version_38 rfl (lv_at hl 1 rfl) ?_
      refine xiald (k := (j)) hx hb hev.1 (xro hR0 hap hS) 0 1 rfl rfl (by omega) (by decide) dX8_version_39 ?_
      refine xtop (y := nI kk) ((hnw _ (by omega)).trans (nw_s o5)) ?_
      refine xiald (k := (kk)) hx hb hev.1 (xro hR0 hap hS) 1 1 rfl rfl (by omega) (by decide) dX8_version_40 ?_
      refine xri hx hb hr hlocks hP hD hS ⟨rfl, ?_⟩ dX8_version_41
      exact Or.inr ⟨j, hj, rfl, Or.inr ⟨kk, o5, rfl⟩⟩
  · skip
    have kc4 := b1_0.mp c4
    refine lv_iconst (v := (-1)) hx hb dX8_version_12 (by decide) ?_
    refine lv_goto (tgt := 41) hx hb dX8_version_13 (by decide) ?_
    refine xri hx hb hr hlocks hP hD hS ⟨rfl, ?_⟩ dX8_version_41
    exact Or.inl ⟨kc4, rfl⟩

abbrev pX8_current (E : xE) (mo : Nat) (ad : Nat → Nat) (th : Int32) (kn : Nat) (rn : Nat) (mn : Nat) (dp : Nat) (am : Nat → Nat → Int32) (al : Nat → Nat → Int64) (pq : Nat → Nat → Nat) (ci : Nat → Option Nat) (y : Int32) (r : Int32) (w : va_W) : Prop := w = [(mo, .inr (9, mOb ad 0 (nI kn) (nI rn) (nI mn) (nI dp)))] ∧ ((¬ isN y 10 ∧ r = -1) ∨ ∃ j, j < 10 ∧ y = nI j ∧ r = nw ci j)
set_option maxHeartbeats 4000000 in
set_option maxRecDepth 100000 in
theorem kX8_current (l : Launch) (E : xE) (mo : Nat) (ad : Nat → Nat) (th : Int32) (kn : Nat) (rn : Nat) (mn : Nat) (dp : Nat) (am : Nat → Nat → Int32) (al : Nat → Nat → Int64) (pq : Nat → Nat → Nat) (ci : Nat → Option Nat) (y : Int32) (hnw : ∀ j, j < 10 → am 27 j = nw ci j) : KT l yX8_current wsX8_current 1 20 0 0 E [(mo, .inr (9, mOb ad th (nI kn) (nI rn) (nI mn) (nI dp)))] [(ad 27, aI E 10 (am 27))] [.ref mo, .int y] (QI E (pX8_current E mo ad th kn rn mn dp am al pq ci y)) := by
  refine KT.start (cc := cX8_current) (maxL := 2) (ret := (some .int)) (by decide) rfl (Nat.le_of_ble_eq_true rfl) ?_
  intro p e s m below meth c A H hx hb hr hlocks hml hts hown hin hP hR0 hD hap hev hz hA hS ls hl
  have hl : lv_has ls 2 [(0, .ref mo), (1, .int y)] := hl
  have hiX8 : ∀ w ∈ wsX80, w ∈ wsX8_current := fun _ h => List.mem_cons_of_mem _ (List.mem_append_right _ h)
  have hf192 := hts (.fieldLink RX8 192 "SignQuorumModel" "thrown" "I") (by decide +kernel)
  have hf84 := hts (.fieldLink RX8 84 "SignQuorumModel" "now" "[I") (by decide +kernel)
  refine lv_aload_n hx hb dX8_current_0 rfl (lv_at hl 0 rfl) ?_
  refine lv_iconst (v := 0) hx hb dX8_current_1 (by decide) ?_
  refine xpt TX8_0 (v := 0) hx hb hts hiX8 hown hev.1 hP hD hS 0 rfl (by decide) hf192 (Nat.le_of_ble_eq_true rfl) dX8_current_2 (fun H locs hP hD hS => ?_)
  have hP : va_P E.1 vwCl [(mo, .inr (9, mOb ad 0 (nI kn) (nI rn) (nI mn) (nI dp)))] H := hP
  have hD : va_D A [(mo, .inr (9, mOb ad 0 (nI kn) (nI rn) (nI mn) (nI dp)))] := hD
  refine lv_iload_n hx hb dX8_current_5 rfl (lv_at hl 1 rfl) ?_
  have hP := hP.sub (ws' := [] ++ [(mo, .inr (9, mOb ad 0 (nI kn) (nI rn) (nI mn) (nI dp)))]) [0] rfl
  have hD := hD.sub (ws' := [] ++ [(mo, .inr (9, mOb ad 0 (nI kn) (nI rn) (nI mn) (nI dp)))]) [0] (by decide) rfl
  refine xci (va_runS (As := [.int y]) (rest := []) ⟨hx, hb, hml, hown, hts⟩ (kX8_isRole l E y  H.size) (va_cwS 1 hts gX8_current_X8_isRole rfl rfl rfl (by decide +kernel) ⟨Nat.le_of_ble_eq_true rfl, Nat.le_of_ble_eq_true rfl⟩) ⟨CP.blind, (xpre hev hz hA hP hD hS hR0 hap [] rfl)⟩ rfl rfl hl.1 rfl (lv_room (Nat.le_of_ble_eq_true rfl)) dX8_current_6 ⟨Nat.le_of_ble_eq_true rfl, Nat.le_of_ble_eq_true rfl⟩) hP hD hS hA (fun r1 w2 H locs h3 hP hD hS => ?_)
  obtain ⟨rfl, rfl, h3⟩ := h3
  try dsimp only at h3
  have hP : va_P E.1 vwCl [(mo, .inr (9, mOb ad 0 (nI kn) (nI rn) (nI mn) (nI dp)))] H := hP
  have hD : va_D A [(mo, .inr (9, mOb ad 0 (nI kn) (nI rn) (nI mn) (nI dp)))] := hD
  refine lv_if_eq (tgt := 21) hx hb dX8_current_9 (by decide) (fun c4 => ?_) (fun c4 => ?_)
  · skip
    have kc4 := b1_0.mp c4
    refine lv_iconst (v := (-1)) hx hb dX8_current_21 (by decide) ?_
    refine xri hx hb hr hlocks hP hD hS ⟨rfl, ?_⟩ dX8_current_22
    exact Or.inl ⟨kc4, rfl⟩
  · skip
    have kc4 := b1_n.mp c4
    obtain ⟨j, hj, rfl⟩ := kc4
    refine lv_aload_n hx hb dX8_current_12 rfl (lv_at hl 0 rfl) ?_
    refine xgt TX8_27 (v := .ref (ad 27)) hx hb hts hiX8 hown hev.1 hP 0 rfl (by decide) hf84 rfl dX8_current_13 ?_
    refine lv_iload_n hx hb dX8_current_16 rfl (lv_at hl 1 rfl) ?_
    refine xiald (k := (j)) hx hb hev.1 (xro hR0 hap hS) 0 1 rfl rfl (by omega) (by decide) dX8_current_17 ?_
    refine lv_goto (tgt := 22) hx hb dX8_current_18 (by decide) ?_
    refine xri hx hb hr hlocks hP hD hS ⟨rfl, ?_⟩ dX8_current_22
    exact Or.inr ⟨j, hj, rfl, hnw j hj⟩

abbrev pX8_thrown (E : xE) (mo : Nat) (ad : Nat → Nat) (th : Int32) (kn : Nat) (rn : Nat) (mn : Nat) (dp : Nat) (r : Int32) (w : va_W) : Prop := w = [] ∧ r = th ∧ (True)
set_option maxHeartbeats 4000000 in
set_option maxRecDepth 100000 in
theorem kX8_thrown (l : Launch) (E : xE) (mo : Nat) (ad : Nat → Nat) (th : Int32) (kn : Nat) (rn : Nat) (mn : Nat) (dp : Nat)  : KT l yX8_thrown wsX8_thrown 0 0 0 0 E [] [(mo, .inr (9, mOb ad th (nI kn) (nI rn) (nI mn) (nI dp)))] [.ref mo] (QI E (pX8_thrown E mo ad th kn rn mn dp)) := by
  refine KT.start (cc := cX8_thrown) (maxL := 1) (ret := (some .int)) (by decide) rfl (Nat.le_of_ble_eq_true rfl) ?_
  intro p e s m below meth c A H hx hb hr hlocks hml hts hown hin hP hR0 hD hap hev hz hA hS ls hl
  have hl : lv_has ls 1 [(0, .ref mo)] := hl
  have hiX8 : ∀ w ∈ wsX80, w ∈ wsX8_thrown := fun _ h => List.mem_cons_of_mem _ (List.mem_append_right _ h)
  have hf192 := hts (.fieldLink RX8 192 "SignQuorumModel" "thrown" "I") (by decide +kernel)
  refine lv_aload_n hx hb dX8_thrown_0 rfl (lv_at hl 0 rfl) ?_
  refine xgt TX8_0 (v := .int th) hx hb hts hiX8 hown hev.1 (xro hR0 hap hS) 0 rfl (by decide) hf192 rfl dX8_thrown_1 ?_
  refine xri hx hb hr hlocks hP hD hS ⟨rfl, ?_, ?_⟩ dX8_thrown_4
  · rfl
  · trivial

abbrev pX8_digest (E : xE) (mo : Nat) (ad : Nat → Nat) (th : Int32) (kn : Nat) (rn : Nat) (mn : Nat) (dp : Nat) (am : Nat → Nat → Int32) (al : Nat → Nat → Int64) (y : Int32) (r : Int32) (w : va_W) : Prop := ∃ (t2 : Int32), w = [(mo, .inr (9, mOb ad t2 (nI kn) (nI rn) (nI mn) (nI dp)))] ∧ ((∃ k, k < 32 ∧ y = nI k ∧ r = by8 (am 31 k) ∧ t2 = 0) ∨ (¬ isN y 32 ∧ r = 0 ∧ t2 = 1))
set_option maxHeartbeats 4000000 in
set_option maxRecDepth 100000 in
theorem kX8_digest (l : Launch) (E : xE) (mo : Nat) (ad : Nat → Nat) (th : Int32) (kn : Nat) (rn : Nat) (mn : Nat) (dp : Nat) (am : Nat → Nat → Int32) (al : Nat → Nat → Int64) (y : Int32)  : KT l yX8_digest wsX8_digest 0 0 0 0 E [(mo, .inr (9, mOb ad th (nI kn) (nI rn) (nI mn) (nI dp)))] [(ad 31, aI E 32 (am 31))] [.ref mo, .int y] (QI E (pX8_digest E mo ad th kn rn mn dp am al y)) := by
  refine KT.start (cc := cX8_digest) (maxL := 2) (ret := (some .byte)) (by decide) rfl (Nat.le_of_ble_eq_true rfl) ?_
  intro p e s m below meth c A H hx hb hr hlocks hml hts hown hin hP hR0 hD hap hev hz hA hS ls hl
  have hl : lv_has ls 2 [(0, .ref mo), (1, .int y)] := hl
  have hiX8 : ∀ w ∈ wsX80, w ∈ wsX8_digest := fun _ h => List.mem_cons_of_mem _ (List.mem_append_right _ h)
  have hf192 := hts (.fieldLink RX8 192 "SignQuorumModel" "thrown" "I") (by decide +kernel)
  have hf93 := hts (.fieldLink RX8 93 "SignQuorumModel" "shown" "[I") (by decide +kernel)
  refine lv_aload_n hx hb dX8_digest_0 rfl (lv_at hl 0 rfl) ?_
  refine lv_iload_n hx hb dX8_digest_1 rfl (lv_at hl 1 rfl) ?_
  refine lv_if_lt (tgt := 15) hx hb dX8_digest_2 (by decide) (fun c1 => ?_) (fun c1 => ?_)
  · skip
    refine lv_iconst (v := 1) hx hb dX8_digest_15 (by decide) ?_
    refine xpt TX8_0 (v := 1) hx hb hts hiX8 hown hev.1 hP hD hS 0 rfl (by decide) hf192 (Nat.le_of_ble_eq_true rfl) dX8_digest_16 (fun H locs hP hD hS => ?_)
    have hP : va_P E.1 vwCl [(mo, .inr (9, mOb ad 1 (nI kn) (nI rn) (nI mn) (nI dp)))] H := hP
    have hD : va_D A [(mo, .inr (9, mOb ad 1 (nI kn) (nI rn) (nI mn) (nI dp)))] := hD
    refine lv_aload_n hx hb dX8_digest_19 rfl (lv_at hl 0 rfl) ?_
    refine xgt TX8_0 (v := .int 1) hx hb hts hiX8 hown hev.1 hP 0 rfl (by decide) hf192 rfl dX8_digest_20 ?_
    refine lv_if_le (tgt := 30) hx hb dX8_digest_23 (by decide) (fun c2 => absurd c2 (by decide)) (fun c2 => ?_)
    refine lv_iconst (v := 0) hx hb dX8_digest_26 (by decide) ?_
    refine lv_goto (tgt := 37) hx hb dX8_digest_27 (by decide) ?_
    refine xrz hx hb hr hlocks (by first | rfl | exact pk_nb _) hP hD hS ⟨1, rfl, ?_⟩ dX8_digest_37
    exact Or.inr ⟨isN_no1 c1 (by decide), rfl, rfl⟩
  · skip
    refine lv_iload_n hx hb dX8_digest_5 rfl (lv_at hl 1 rfl) ?_
    refine lv_bipush (v := 32) hx hb dX8_digest_6 (by decide) ?_
    refine lv_icmp_ge (tgt := 15) hx hb dX8_digest_8 (by decide) (fun c3 => ?_) (fun c3 => ?_)
    · skip
      refine lv_iconst (v := 1) hx hb dX8_digest_15 (by decide) ?_
      refine xpt TX8_0 (v := 1) hx hb hts hiX8 hown hev.1 hP hD hS 0 rfl (by decide) hf192 (Nat.le_of_ble_eq_true rfl) dX8_digest_16 (fun H locs hP hD hS => ?_)
      have hP : va_P E.1 vwCl [(mo, .inr (9, mOb ad 1 (nI kn) (nI rn) (nI mn) (nI dp)))] H := hP
      have hD : va_D A [(mo, .inr (9, mOb ad 1 (nI kn) (nI rn) (nI mn) (nI dp)))] := hD
      refine lv_aload_n hx hb dX8_digest_19 rfl (lv_at hl 0 rfl) ?_
      refine xgt TX8_0 (v := .int 1) hx hb hts hiX8 hown hev.1 hP 0 rfl (by decide) hf192 rfl dX8_digest_20 ?_
      refine lv_if_le (tgt := 30) hx hb dX8_digest_23 (by decide) (fun c4 => absurd c4 (by decide)) (fun c4 => ?_)
      refine lv_iconst (v := 0) hx hb dX8_digest_26 (by decide) ?_
      refine lv_goto (tgt := 37) hx hb dX8_digest_27 (by decide) ?_
      refine xrz hx hb hr hlocks (by first | rfl | exact pk_nb _) hP hD hS ⟨1, rfl, ?_⟩ dX8_digest_37
      exact Or.inr ⟨isN_no2 (n := 32) c3 (by decide), rfl, rfl⟩
    · skip
      refine lv_iconst (v := 0) hx hb dX8_digest_11 (by decide) ?_
      refine lv_goto (tgt := 16) hx hb dX8_digest_12 (by decide) ?_
      refine xpt TX8_0 (v := 0) hx hb hts hiX8 hown hev.1 hP hD hS 0 rfl (by decide) hf192 (Nat.le_of_ble_eq_true rfl) dX8_digest_16 (fun H locs hP hD hS => ?_)
      have hP : va_P E.1 vwCl [(mo, .inr (9, mOb ad 0 (nI kn) (nI rn) (nI mn) (nI dp)))] H := hP
      have hD : va_D A [(mo, .inr (9, mOb ad 0 (nI kn) (nI rn) (nI mn) (nI dp)))] := hD
      refine lv_aload_n hx hb dX8_digest_19 rfl (lv_at hl 0 rfl) ?_
      refine xgt TX8_0 (v := .int 0) hx hb hts hiX8 hown hev.1 hP 0 rfl (by decide) hf192 rfl dX8_digest_20 ?_
      refine lv_if_le (tgt := 30) hx hb dX8_digest_23 (by decide) (fun c5 => ?_) (fun c5 => absurd (by decide) c5)
      obtain ⟨k, hk, rfl⟩ := in_t 32 c1 c3 (by decide)
      refine lv_aload_n hx hb dX8_digest_30 rfl (lv_at hl 0 rfl) ?_
      refine xgt TX8_31 (v := .ref (ad 31)) hx hb hts hiX8 hown hev.1 hP 0 rfl (by decide) hf93 rfl dX8_digest_31 ?_
      refine lv_iload_n hx hb dX8_digest_34 rfl (lv_at hl 1 rfl) ?_
      refine xiald (k := (k)) hx hb hev.1 (xro hR0 hap hS) 0 1 rfl rfl (by omega) (by decide) dX8_digest_35 ?_
      refine lv_i2b (v := ((am 31) k).toInt8.toInt32) hx hb dX8_digest_36 rfl ?_
      refine xrz hx hb hr hlocks (by first | rfl | exact pk_nb _) hP hD hS ⟨0, rfl, ?_⟩ dX8_digest_37
      exact Or.inl ⟨k, hk, rfl, rfl, rfl⟩

abbrev pX8_hash (E : xE) (mo : Nat) (ad : Nat → Nat) (th : Int32) (kn : Nat) (rn : Nat) (mn : Nat) (dp : Nat) (am : Nat → Nat → Int32) (al : Nat → Nat → Int64) (pq : Nat → Nat → Nat) (a29 : Nat → Int32) (a30 : Nat → Int32) (a34 : Nat → Int32) (a35 : Nat → Int32) (a36 : Nat → Int32) (q : Nat) (r : Int32) (w : va_W) : Prop := ∃ (m2 : Nat) (g29 : Nat → Int32) (g30 : Nat → Int32) (g34 : Nat → Int32) (g35 : Nat → Int32) (g36 : Nat → Int32) (g31 : Nat → Int32), w = [(mo, .inr (9, mOb ad 0 (nI kn) (nI rn) (nI m2) (nI dp))), (ad 29, aI E 256 g29), (ad 30, aI E 32 g30), (ad 34, aI E 16 g34), (ad 35, aI E 8 g35), (ad 36, aI E 8 g36), (ad 31, aI E 32 g31)] ∧ r = nI ((mB am al pq q).length) ∧ (∀ k, k < 32 → g31 k = mdB (shaUL (mB am al pq q)) k)
set_option maxHeartbeats 4000000 in
set_option maxRecDepth 100000 in
theorem kX8_hash (l : Launch) (E : xE) (mo : Nat) (ad : Nat → Nat) (th : Int32) (kn : Nat) (rn : Nat) (mn : Nat) (dp : Nat) (am : Nat → Nat → Int32) (al : Nat → Nat → Int64) (pq : Nat → Nat → Nat) (a29 : Nat → Int32) (a30 : Nat → Int32) (a34 : Nat → Int32) (a35 : Nat → Int32) (a36 : Nat → Int32) (q : Nat) (hmk : mOk rn am pq) (hrn : rn ≤ 24) (hq : q < rn) (hfs : ∀ k, k < 8 → am 32 k = sFS k) (hst : ∀ k, k < 64 → am 33 k = sRC k) : KT l yX8_hash wsX8_hash 5 118 0 0 E [(mo, .inr (9, mOb ad th (nI kn) (nI rn) (nI mn) (nI dp))), (ad 29, aI E 256 a29), (ad 30, aI E 32 a30), (ad 34, aI E 16 a34), (ad 35, aI E 8 a35), (ad 36, aI E 8 a36), (ad 31, aI E 32 (am 31))] [(ad 14, aJ E 24 (al 14)), (ad 32, aI E 8 (am 32)), (ad 33, aI E 64 (am 33)), (ad 8, aI E 240 (am 8)), (ad 9, aI E 240 (am 9)), (ad 10, aI E 24 (am 10)), (ad 11, aI E 24 (am 11)), (ad 12, aI E 24 (am 12)), (ad 13, aI E 384 (am 13)), (ad 15, aI E 24 (am 15)), (ad 16, aI E 168 (am 16)), (ad 17, aI E 168 (am 17)), (ad 18, aI E 24 (am 18)), (ad 19, aI E 144 (am 19)), (ad 20, aI E 144 (am 20)), (ad 21, aZ E 144 (am 21)), (ad 22, aI E 24 (am 22)), (ad 23, aI E 144 (am 23))] [.ref mo, .int (nI q)] (QI E (pX8_hash E mo ad th kn rn mn dp am al pq a29 a30 a34 a35 a36 q)) := by
  refine KT.start (cc := cX8_hash) (maxL := 4) (ret := (some .int)) (by decide) rfl (Nat.le_of_ble_eq_true rfl) ?_
  intro p e s m below meth c A H hx hb hr hlocks hml hts hown hin hP hR0 hD hap hev hz hA hS ls hl
  have hl : lv_has ls 4 [(0, .ref mo), (1, .int (nI q))] := hl
  have hiX8 : ∀ w ∈ wsX80, w ∈ wsX8_hash := fun _ h => List.mem_cons_of_mem _ (List.mem_append_right _ h)
  have hf192 := hts (.fieldLink RX8 192 "SignQuorumModel" "thrown" "I") (by decide +kernel)
  have hf206 := hts (.fieldLink RX8 206 "SignQuorumModel" "many" "I") (by decide +kernel)
  have hf90 := hts (.fieldLink RX8 90 "SignQuorumModel" "made" "[I") (by decide +kernel)
  have hf93 := hts (.fieldLink RX8 93 "SignQuorumModel" "shown" "[I") (by decide +kernel)
  obtain ⟨h10, h12, h15, h18, h22, h24, hb10, hb12, hb15, hb18, hb22, hb24⟩ := hmk q (hq)
  have hrb : (mB am al pq q).length ≤ 92 := mrowB_le (role := pq q 17) (am 11 q) (al 14 q) (am 13) (am 8) (am 9) (am 16) (am 17) (am 19) (am 20) (am 21) (am 23) q hb12 hb15 hb18 hb22
  refine lv_aload_n hx hb dX8_hash_0 rfl (lv_at hl 0 rfl) ?_
  refine lv_iconst (v := 0) hx hb dX8_hash_1 (by decide) ?_
  refine xpt TX8_0 (v := 0) hx hb hts hiX8 hown hev.1 hP hD hS 0 rfl (by decide) hf192 (Nat.le_of_ble_eq_true rfl) dX8_hash_2 (fun H locs hP hD hS => ?_)
  have hP : va_P E.1 vwCl [(mo, .inr (9, mOb ad 0 (nI kn) (nI rn) (nI mn) (nI dp))), (ad 29, aI E 256 a29), (ad 30, aI E 32 a30), (ad 34, aI E 16 a34), (ad 35, aI E 8 a35), (ad 36, aI E 8 a36), (ad 31, aI E 32 (am 31))] H := hP
  have hD : va_D A [(mo, .inr (9, mOb ad 0 (nI kn) (nI rn) (nI mn) (nI dp))), (ad 29, aI E 256 a29), (ad 30, aI E 32 a30), (ad 34, aI E 16 a34), (ad 35, aI E 8 a35), (ad 36, aI E 8 a36), (ad 31, aI E 32 (am 31))] := hD
  refine lv_aload_n hx hb dX8_hash_5 rfl (lv_at hl 0 rfl) ?_
  refine lv_iload_n hx hb dX8_hash_6 rfl (lv_at hl 1 rfl) ?_
  have hP := hP.sub (ws' := [] ++ [(mo, .inr (9, mOb ad 0 (nI kn) (nI rn) (nI mn) (nI dp))), (ad 29, aI E 256 a29), (ad 30, aI E 32 a30), (ad 34, aI E 16 a34), (ad 35, aI E 8 a35), (ad 36, aI E 8 a36), (ad 31, aI E 32 (am 31))]) [0, 1, 2, 3, 4, 5, 6] rfl
  have hD := hD.sub (ws' := [] ++ [(mo, .inr (9, mOb ad 0 (nI kn) (nI rn) (nI mn) (nI dp))), (ad 29, aI E 256 a29), (ad 30, aI E 32 a30), (ad 34, aI E 16 a34), (ad 35, aI E 8 a35), (ad 36, aI E 8 a36), (ad 31, aI E 32 (am 31))]) [0, 1, 2, 3, 4, 5, 6] (by decide) rfl
  refine xci (va_runV (As := [.int (nI q)]) (rest := []) ⟨hx, hb, hml, hown, hts⟩ (kX8_isRow l E mo ad 0 kn rn mn dp (nI q) (by first | assumption | omega) H.size) (cwV 1 hts gX8_hash_X8_isRow rfl rfl rfl (by decide +kernel) ⟨Nat.le_of_ble_eq_true rfl, Nat.le_of_ble_eq_true rfl⟩) ⟨CP.blind, (va_recv hev.1 hP (ci := 9) (q0 := 0) rfl rfl), (xpre hev hz hA hP hD hS hR0 hap [0] rfl)⟩ rfl rfl hl.1 rfl (lv_room (Nat.le_of_ble_eq_true rfl)) dX8_hash_7 ⟨Nat.le_of_ble_eq_true rfl, Nat.le_of_ble_eq_true rfl⟩) hP hD hS hA (fun r1 w2 H locs h3 hP hD hS => ?_)
  obtain ⟨rfl, rfl, h3⟩ := h3
  try dsimp only at h3
  have hP : va_P E.1 vwCl [(mo, .inr (9, mOb ad 0 (nI kn) (nI rn) (nI mn) (nI dp))), (ad 29, aI E 256 a29), (ad 30, aI E 32 a30), (ad 34, aI E 16 a34), (ad 35, aI E 8 a35), (ad 36, aI E 8 a36), (ad 31, aI E 32 (am 31))] H := hP
  have hD : va_D A [(mo, .inr (9, mOb ad 0 (nI kn) (nI rn) (nI mn) (nI dp))), (ad 29, aI E 256 a29), (ad 30, aI E 32 a30), (ad 34, aI E 16 a34), (ad 35, aI E 8 a35), (ad 36, aI E 8 a36), (ad 31, aI E 32 (am 31))] := hD
  refine lv_if_ne (tgt := 15) hx hb dX8_hash_10 (by decide) (fun c4 => ?_) (fun c4 => absurd c4 (b1_n.mpr (⟨q, hq, rfl⟩)))
  refine lv_aload_n hx hb dX8_hash_15 rfl (lv_at hl 0 rfl) ?_
  refine lv_iconst (v := 0) hx hb dX8_hash_16 (by decide) ?_
  refine xpt TX8_28 (v := 0) hx hb hts hiX8 hown hev.1 hP hD hS 0 rfl (by decide) hf206 (Nat.le_of_ble_eq_true rfl) dX8_hash_17 (fun H locs hP hD hS => ?_)
  have hP : va_P E.1 vwCl [(mo, .inr (9, mOb ad 0 (nI kn) (nI rn) 0 (nI dp))), (ad 29, aI E 256 a29), (ad 30, aI E 32 a30), (ad 34, aI E 16 a34), (ad 35, aI E 8 a35), (ad 36, aI E 8 a36), (ad 31, aI E 32 (am 31))] H := hP
  have hD : va_D A [(mo, .inr (9, mOb ad 0 (nI kn) (nI rn) 0 (nI dp))), (ad 29, aI E 256 a29), (ad 30, aI E 32 a30), (ad 34, aI E 16 a34), (ad 35, aI E 8 a35), (ad 36, aI E 8 a36), (ad 31, aI E 32 (am 31))] := hD
  refine lv_aload_n hx hb dX8_hash_20 rfl (lv_at hl 0 rfl) ?_
  refine lv_iload_n hx hb dX8_hash_21 rfl (lv_at hl 1 rfl) ?_
  have hP := hP.sub (ws' := [(mo, .inr (9, mOb ad 0 (nI kn) (nI rn) 0 (nI dp))), (ad 29, aI E 256 a29)] ++ [(ad 30, aI E 32 a30), (ad 34, aI E 16 a34), (ad 35, aI E 8 a35), (ad 36, aI E 8 a36), (ad 31, aI E 32 (am 31))]) [0, 1, 2, 3, 4, 5, 6] rfl
  have hD := hD.sub (ws' := [(mo, .inr (9, mOb ad 0 (nI kn) (nI rn) 0 (nI dp))), (ad 29, aI E 256 a29)] ++ [(ad 30, aI E 32 a30), (ad 34, aI E 16 a34), (ad 35, aI E 8 a35), (ad 36, aI E 8 a36), (ad 31, aI E 32 (am 31))]) [0, 1, 2, 3, 4, 5, 6] (by decide) rfl
  refine xcv (va_runV (As := [.int (nI q)]) (rest := []) ⟨hx, hb, hml, hown, hts⟩ (kX8_putRow l E mo ad 0 kn rn 0 dp a29 (al 14) (am 8) (am 9) (am 10) (am 11) (am 12) (am 13) (am 15) (am 16) (am 17) (am 18) (am 19) (am 20) (am 21) (am 22) (am 23) q (pq q 17) (pq q 12) (pq q 15) (pq q 16) (pq q 13) (by first | assumption | omega) (by first | assumption | omega) (by first | assumption | omega) (by first | assumption | omega) (by first | assumption | omega) (by first | assumption | omega) (by first | assumption | omega) (by first | assumption | omega) (by first | assumption | omega) (by first | assumption | omega) (by first | assumption | omega) (by first | assumption | omega) H.size) (cwV 1 hts gX8_hash_X8_putRow rfl rfl rfl (by decide +kernel) ⟨Nat.le_of_ble_eq_true rfl, Nat.le_of_ble_eq_true rfl⟩) ⟨CP.blind, (va_recv hev.1 hP.left (ci := 9) (q0 := 0) rfl rfl), (xpre hev hz hA hP hD hS hR0 hap [5, 8, 9, 10, 11, 12, 13, 14, 15, 16, 17, 18, 19, 20, 21, 22] rfl)⟩ rfl rfl hl.1 rfl (lv_room (Nat.le_of_ble_eq_true rfl)) dX8_hash_22 ⟨Nat.le_of_ble_eq_true rfl, Nat.le_of_ble_eq_true rfl⟩) hP hD hS hA (fun w6 H locs h7 hP hD hS => ?_)
  obtain ⟨g8, rfl, h7⟩ := h7
  try dsimp only at h7
  have hP : va_P E.1 vwCl [(mo, .inr (9, mOb ad 0 (nI kn) (nI rn) (nI (0 + (mrowB (pq q 17) ((am 11) q) ((al 14) q) (pq q 12) (am 13) (am 8) (am 9) (pq q 15) (am 16) (am 17) (pq q 16) (am 19) (am 20) (am 21) (pq q 13) (am 23) q).length)) (nI dp))), (ad 29, aI E 256 g8), (ad 30, aI E 32 a30), (ad 34, aI E 16 a34), (ad 35, aI E 8 a35), (ad 36, aI E 8 a36), (ad 31, aI E 32 (am 31))] H := hP
  have hD : va_D A [(mo, .inr (9, mOb ad 0 (nI kn) (nI rn) (nI (0 + (mrowB (pq q 17) ((am 11) q) ((al 14) q) (pq q 12) (am 13) (am 8) (am 9) (pq q 15) (am 16) (am 17) (pq q 16) (am 19) (am 20) (am 21) (pq q 13) (am 23) q).length)) (nI dp))), (ad 29, aI E 256 g8), (ad 30, aI E 32 a30), (ad 34, aI E 16 a34), (ad 35, aI E 8 a35), (ad 36, aI E 8 a36), (ad 31, aI E 32 (am 31))] := hD
  rw [show nI (0 + (mrowB (pq q 17) ((am 11) q) ((al 14) q) (pq q 12) (am 13) (am 8) (am 9) (pq q 15) (am 16) (am 17) (pq q 16) (am 19) (am 20) (am 21) (pq q 13) (am 23) q).length) = nI ((mB am al pq q).length) from congrArg nI (Nat.zero_add _)] at hP hD
  have hP : va_P E.1 vwCl [(mo, .inr (9, mOb ad 0 (nI kn) (nI rn) (nI ((mB am al pq q).length)) (nI dp))), (ad 29, aI E 256 g8), (ad 30, aI E 32 a30), (ad 34, aI E 16 a34), (ad 35, aI E 8 a35), (ad 36, aI E 8 a36), (ad 31, aI E 32 (am 31))] H := hP
  have hD : va_D A [(mo, .inr (9, mOb ad 0 (nI kn) (nI rn) (nI ((mB am al pq q).length)) (nI dp))), (ad 29, aI E 256 g8), (ad 30, aI E 32 a30), (ad 34, aI E 16 a34), (ad 35, aI E 8 a35), (ad 36, aI E 8 a36), (ad 31, aI E 32 (am 31))] := hD
  refine lv_aload_n hx hb dX8_hash_25 rfl (lv_at hl 0 rfl) ?_
  refine xgt TX8_28 (v := .int (nI ((mB am al pq q).length))) hx hb hts hiX8 hown hev.1 hP 0 rfl (by decide) hf206 rfl dX8_hash_26 ?_
  refine lv_istore_n (lv' := [(2, .int (nI ((mB am al pq q).length))), (0, .ref mo), (1, .int (nI q))]) hx hb dX8_hash_29 rfl hl (by decide) rfl (fun ls hl => ?_)
  refine lv_aload_n hx hb dX8_hash_30 rfl (lv_at hl 1 rfl) ?_
  have hP := hP.sub (ws' := [(mo, .inr (9, mOb ad 0 (nI kn) (nI rn) (nI ((mB am al pq q).length)) (nI dp))), (ad 29, aI E 256 g8), (ad 30, aI E 32 a30), (ad 34, aI E 16 a34), (ad 35, aI E 8 a35), (ad 36, aI E 8 a36)] ++ [(ad 31, aI E 32 (am 31))]) [0, 1, 2, 3, 4, 5, 6] rfl
  have hD := hD.sub (ws' := [(mo, .inr (9, mOb ad 0 (nI kn) (nI rn) (nI ((mB am al pq q).length)) (nI dp))), (ad 29, aI E 256 g8), (ad 30, aI E 32 a30), (ad 34, aI E 16 a34), (ad 35, aI E 8 a35), (ad 36, aI E 8 a36)] ++ [(ad 31, aI E 32 (am 31))]) [0, 1, 2, 3, 4, 5, 6] (by decide) rfl
  refine xcv (va_runV (As := []) (rest := []) ⟨hx, hb, hml, hown, hts⟩ (kX8_digestAll l E mo ad 0 kn rn ((mB am al pq q).length) dp g8 a30 (am 32) (am 33) a34 a35 a36 (by first | assumption | omega) (by first | assumption | omega) (by first | assumption | omega) H.size) (cwV 0 hts gX8_hash_X8_digestAll rfl rfl rfl (by decide +kernel) ⟨Nat.le_of_ble_eq_true rfl, Nat.le_of_ble_eq_true rfl⟩) ⟨CP.blind, (va_recv hev.1 hP.left (ci := 9) (q0 := 0) rfl rfl), (xpre hev hz hA hP hD hS hR0 hap [2, 3] rfl)⟩ rfl rfl hl.1 rfl (lv_room (Nat.le_of_ble_eq_true rfl)) dX8_hash_31 ⟨Nat.le_of_ble_eq_true rfl, Nat.le_of_ble_eq_true rfl⟩) hP hD hS hA (fun w10 H locs h11 hP hD hS => ?_)
  obtain ⟨m212, g2913, g3014, g3415, g3516, g3617, rfl, h11⟩ := h11
  try dsimp only at h11
  have hP : va_P E.1 vwCl [(mo, .inr (9, mOb ad 0 (nI kn) (nI rn) (nI m212) (nI dp))), (ad 29, aI E 256 g2913), (ad 30, aI E 32 g3014), (ad 34, aI E 16 g3415), (ad 35, aI E 8 g3516), (ad 36, aI E 8 g3617), (ad 31, aI E 32 (am 31))] H := hP
  have hD : va_D A [(mo, .inr (9, mOb ad 0 (nI kn) (nI rn) (nI m212) (nI dp))), (ad 29, aI E 256 g2913), (ad 30, aI E 32 g3014), (ad 34, aI E 16 g3415), (ad 35, aI E 8 g3516), (ad 36, aI E 8 g3617), (ad 31, aI E 32 (am 31))] := hD
  have hW := shaUL_of (L := mB am al pq q) h11.1 h7 rfl
  have hmd : ∀ k, k < 32 → g3014 k = mdB (shaUL (mB am al pq q)) k := fun k hk => by rw [h11.2 k hk, hW (k / 4) (by omega)]; rfl
  refine lv_iconst (v := 0) hx hb dX8_hash_34 (by decide) ?_
  refine lv_istore_n (lv' := [(3, .int 0), (2, .int (nI ((mB am al pq q).length))), (0, .ref mo), (1, .int (nI q))]) hx hb dX8_hash_35 rfl hl (by decide) rfl (fun ls hl => ?_)
  have loop36 : ∀ (fz36 : Nat) (i : Nat) (c31 : Nat → Int32), (i ≤ 32) → (∀ k, k < i → c31 k = g3014 k) → (32 - i < fz36) → ∀ (H : Heap) (locs : List Loc), va_P E.1 vwCl [(mo, .inr (9, mOb ad 0 (nI kn) (nI rn) (nI m212) (nI dp))), (ad 29, aI E 256 g2913), (ad 30, aI E 32 g3014), (ad 34, aI E 16 g3415), (ad 35, aI E 8 g3516), (ad 36, aI E 8 g3617), (ad 31, aI E 32 c31)] H → va_D A [(mo, .inr (9, mOb ad 0 (nI kn) (nI rn) (nI m212) (nI dp))), (ad 29, aI E 256 g2913), (ad 30, aI E 32 g3014), (ad 34, aI E 16 g3415), (ad 35, aI E 8 g3516), (ad 36, aI E 8 g3617), (ad 31, aI E 32 c31)] → va_S A s.heap H locs → ∀ ls : Array Slot, lv_has ls 4 [(3, .int (nI i)), (2, .int (nI ((mB am al pq q).length))), (0, .ref mo)] → W p l e ({ frames := 5, cells := 0, slots := 0, locals := 118 } : Room) s m ([.ref mo, .int (nI q)] : List Value).toArray below meth c H locs 0 0 (MQ below (QI E (pX8_hash E mo ad th kn rn mn dp am al pq a29 a30 a34 a35 a36 q) A) ([.ref mo, .int (nI q)] : List Value).toArray s 0 0 A) (F0 m 36 ls []) := by
    intro fz36
    induction fz36 with
    | zero =>
      intro i c31 hi hc hfuel
      exact absurd hfuel (by omega)
    | succ fz36 ih36 =>
      intro i c31 hi hc hfuel H locs hP hD hS ls hl
      refine lv_iload_n hx hb dX8_hash_36 rfl (lv_at hl 0 rfl) ?_
      refine lv_bipush (v := 32) hx hb dX8_hash_37 (by decide) ?_
      refine lv_icmp_ge (tgt := 60) hx hb dX8_hash_39 (by decide) (fun c18 => ?_) (fun c18 => ?_)
      · skip
        have kc18 : 32 ≤ i := (nI_leI (a := 32) (b := i) (by omega) (by omega)).mp c18
        refine lv_iload_n hx hb dX8_hash_60 rfl (lv_at hl 1 rfl) ?_
        refine xri hx hb hr hlocks hP hD hS ⟨m212, g2913, g3014, g3415, g3516, g3617, c31, rfl, ?_, ?_⟩ dX8_hash_61
        · rfl
        · exact fun k hk => (hc k (by omega)).trans (hmd k hk)
      · skip
        have kc18 : ¬ 32 ≤ i := fun h9 => c18 ((nI_leI (a := 32) (b := i) (by omega) (by omega)).mpr h9)
        refine lv_aload_n hx hb dX8_hash_42 rfl (lv_at hl 2 rfl) ?_
        refine xgt TX8_31 (v := .ref (ad 31)) hx hb hts hiX8 hown hev.1 hP 0 rfl (by decide) hf93 rfl dX8_hash_43 ?_
        refine lv_iload_n hx hb dX8_hash_46 rfl (lv_at hl 0 rfl) ?_
        refine lv_aload_n hx hb dX8_hash_47 rfl (lv_at hl 2 rfl) ?_
        refine xgt TX8_30 (v := .ref (ad 30)) hx hb hts hiX8 hown hev.1 hP 0 rfl (by decide) hf90 rfl dX8_hash_48 ?_
        refine lv_iload_n hx hb dX8_hash_51 rfl (lv_at hl 0 rfl) ?_
        refine xiald (k := (i)) hx hb hev.1 hP 2 1 rfl rfl (by omega) (by decide) dX8_hash_52 ?_
        refine xiast (k := i) hx hb hev.1 hP hD hS 6 1 rfl rfl (by omega) (by decide) dX8_hash_53 (fun H locs hP hD hS => ?_)
        obtain ⟨f19, ef19⟩ : ∃ y9_ : Nat → Int32, y9_ = upd c31 i (g3014 i) := ⟨_, rfl⟩
        rw [← ef19] at hP hD
        have hP : va_P E.1 vwCl [(mo, .inr (9, mOb ad 0 (nI kn) (nI rn) (nI m212) (nI dp))), (ad 29, aI E 256 g2913), (ad 30, aI E 32 g3014), (ad 34, aI E 16 g3415), (ad 35, aI E 8 g3516), (ad 36, aI E 8 g3617), (ad 31, aI E 32 f19)] H := hP
        have hD : va_D A [(mo, .inr (9, mOb ad 0 (nI kn) (nI rn) (nI m212) (nI dp))), (ad 29, aI E 256 g2913), (ad 30, aI E 32 g3014), (ad 34, aI E 16 g3415), (ad 35, aI E 8 g3516), (ad 36, aI E 8 g3617), (ad 31, aI E 32 f19)] := hD
        refine lv_iinc (v := nI (i + 1)) (lv' := [(3, .int (nI (i + 1))), (2, .int (nI ((mB am al pq q).length))), (0, .ref mo)]) hx hb dX8_hash_54 hl (k := 0) rfl ((nI_add i 1).trans (congrArg nI (by omega))) (by decide) rfl (fun ls hl => ?_)
        refine lv_goto (tgt := 36) hx hb dX8_hash_57 (by decide) ?_
        exact ih36  (i + 1) f19 (by omega) (lt_s (fun k hk => by rw [ef19, upd_ne (by omega)]; exact hc k hk) (by rw [ef19, upd_self])) (by omega) _ _ hP hD hS ls (lv_sub hl [0, 1, 2] rfl)
  exact loop36 33 0 (am 31) (by omega) (fun _ h9 => absurd h9 (by omega)) (by omega) _ _ hP hD hS ls (lv_sub hl [0, 1, 2] rfl)

abbrev pX8_hashN (E : xE) (mo : Nat) (ad : Nat → Nat) (th : Int32) (kn : Nat) (rn : Nat) (mn : Nat) (dp : Nat) (y : Int32) (r : Int32) (w : va_W) : Prop := w = [(mo, .inr (9, mOb ad 0 (nI kn) (nI rn) (nI mn) (nI dp)))] ∧ r = -1 ∧ (True)
set_option maxHeartbeats 4000000 in
set_option maxRecDepth 100000 in
theorem kX8_hashN (l : Launch) (E : xE) (mo : Nat) (ad : Nat → Nat) (th : Int32) (kn : Nat) (rn : Nat) (mn : Nat) (dp : Nat) (y : Int32) (hrn : rn ≤ 24) (hno : ¬ isN y rn) : KT l yX8_hash wsX8_hash 1 21 0 0 E [(mo, .inr (9, mOb ad th (nI kn) (nI rn) (nI mn) (nI dp)))] [] [.ref mo, .int y] (QI E (pX8_hashN E mo ad th kn rn mn dp y)) := by
  refine KT.start (cc := cX8_hash) (maxL := 4) (ret := (some .int)) (by decide) rfl (Nat.le_of_ble_eq_true rfl) ?_
  intro p e s m below meth c A H hx hb hr hlocks hml hts hown hin hP hR0 hD hap hev hz hA hS ls hl
  have hl : lv_has ls 4 [(0, .ref mo), (1, .int y)] := hl
  have hiX8 : ∀ w ∈ wsX80, w ∈ wsX8_hash := fun _ h => List.mem_cons_of_mem _ (List.mem_append_right _ h)
  have hf192 := hts (.fieldLink RX8 192 "SignQuorumModel" "thrown" "I") (by decide +kernel)
  refine lv_aload_n hx hb dX8_hash_0 rfl (lv_at hl 0 rfl) ?_
  refine lv_iconst (v := 0) hx hb dX8_hash_1 (by decide) ?_
  refine xpt TX8_0 (v := 0) hx hb hts hiX8 hown hev.1 hP hD hS 0 rfl (by decide) hf192 (Nat.le_of_ble_eq_true rfl) dX8_hash_2 (fun H locs hP hD hS => ?_)
  have hP : va_P E.1 vwCl [(mo, .inr (9, mOb ad 0 (nI kn) (nI rn) (nI mn) (nI dp)))] H := hP
  have hD : va_D A [(mo, .inr (9, mOb ad 0 (nI kn) (nI rn) (nI mn) (nI dp)))] := hD
  refine lv_aload_n hx hb dX8_hash_5 rfl (lv_at hl 0 rfl) ?_
  refine lv_iload_n hx hb dX8_hash_6 rfl (lv_at hl 1 rfl) ?_
  have hP := hP.sub (ws' := [] ++ [(mo, .inr (9, mOb ad 0 (nI kn) (nI rn) (nI mn) (nI dp)))]) [0] rfl
  have hD := hD.sub (ws' := [] ++ [(mo, .inr (9, mOb ad 0 (nI kn) (nI rn) (nI mn) (nI dp)))]) [0] (by decide) rfl
  refine xci (va_runV (As := [.int y]) (rest := []) ⟨hx, hb, hml, hown, hts⟩ (kX8_isRow l E mo ad 0 kn rn mn dp y (by first | assumption | omega) H.size) (cwV 1 hts gX8_hash_X8_isRow rfl rfl rfl (by decide +kernel) ⟨Nat.le_of_ble_eq_true rfl, Nat.le_of_ble_eq_true rfl⟩) ⟨CP.blind, (va_recv hev.1 hP (ci := 9) (q0 := 0) rfl rfl), (xpre hev hz hA hP hD hS hR0 hap [0] rfl)⟩ rfl rfl hl.1 rfl (lv_room (Nat.le_of_ble_eq_true rfl)) dX8_hash_7 ⟨Nat.le_of_ble_eq_true rfl, Nat.le_of_ble_eq_true rfl⟩) hP hD hS hA (fun r1 w2 H locs h3 hP hD hS => ?_)
  obtain ⟨rfl, rfl, h3⟩ := h3
  try dsimp only at h3
  have hP : va_P E.1 vwCl [(mo, .inr (9, mOb ad 0 (nI kn) (nI rn) (nI mn) (nI dp)))] H := hP
  have hD : va_D A [(mo, .inr (9, mOb ad 0 (nI kn) (nI rn) (nI mn) (nI dp)))] := hD
  refine lv_if_ne (tgt := 15) hx hb dX8_hash_10 (by decide) (fun c4 => absurd c4 (fun h9 => h9 (b1_0.mpr (hno)))) (fun c4 => ?_)
  refine lv_iconst (v := (-1)) hx hb dX8_hash_13 (by decide) ?_
  refine xri hx hb hr hlocks hP hD hS ⟨rfl, ?_, ?_⟩ dX8_hash_14
  · rfl
  · trivial

abbrev pX8_about (E : xE) (mo : Nat) (ad : Nat → Nat) (th : Int32) (kn : Nat) (rn : Nat) (mn : Nat) (dp : Nat) (am : Nat → Nat → Int32) (al : Nat → Nat → Int64) (pq : Nat → Nat → Nat) (a29 : Nat → Int32) (a30 : Nat → Int32) (a34 : Nat → Int32) (a35 : Nat → Int32) (a36 : Nat → Int32) (q : Nat) (z : Int32) (r : Int32) (w : va_W) : Prop := ∃ (m2 : Nat) (g29 : Nat → Int32) (g30 : Nat → Int32) (g34 : Nat → Int32) (g35 : Nat → Int32) (g36 : Nat → Int32), w = [(mo, .inr (9, mOb ad 0 (nI kn) (nI rn) (nI m2) (nI dp))), (ad 29, aI E 256 g29), (ad 30, aI E 32 g30), (ad 34, aI E 16 g34), (ad 35, aI E 8 g35), (ad 36, aI E 8 g36)] ∧ r = mabt z (nI (pq q 17)) (am 11 q) (pq q 14) (mk (mHp am al pq q) kn) (pq q 15) (pq q 16) (pq q 13) ∧ (True)
set_option maxHeartbeats 4000000 in
set_option maxRecDepth 100000 in
theorem kX8_about (l : Launch) (E : xE) (mo : Nat) (ad : Nat → Nat) (th : Int32) (kn : Nat) (rn : Nat) (mn : Nat) (dp : Nat) (am : Nat → Nat → Int32) (al : Nat → Nat → Int64) (pq : Nat → Nat → Nat) (a29 : Nat → Int32) (a30 : Nat → Int32) (a34 : Nat → Int32) (a35 : Nat → Int32) (a36 : Nat → Int32) (q : Nat) (z : Int32) (hmk : mOk rn am pq) (hrn : rn ≤ 24) (hq : q < rn) (hkn : kn ≤ 20) (hfs : ∀ k, k < 8 → am 32 k = sFS k) (hst : ∀ k, k < 64 → am 33 k = sRC k) : KT l yX8_about wsX8_about 7 168 0 0 E [(mo, .inr (9, mOb ad th (nI kn) (nI rn) (nI mn) (nI dp))), (ad 29, aI E 256 a29), (ad 30, aI E 32 a30), (ad 34, aI E 16 a34), (ad 35, aI E 8 a35), (ad 36, aI E 8 a36)] [(ad 3, aJ E 20 (al 3)), (ad 14, aJ E 24 (al 14)), (ad 32, aI E 8 (am 32)), (ad 33, aI E 64 (am 33)), (ad 8, aI E 240 (am 8)), (ad 9, aI E 240 (am 9)), (ad 10, aI E 24 (am 10)), (ad 11, aI E 24 (am 11)), (ad 12, aI E 24 (am 12)), (ad 13, aI E 384 (am 13)), (ad 15, aI E 24 (am 15)), (ad 16, aI E 168 (am 16)), (ad 17, aI E 168 (am 17)), (ad 18, aI E 24 (am 18)), (ad 19, aI E 144 (am 19)), (ad 20, aI E 144 (am 20)), (ad 21, aZ E 144 (am 21)), (ad 22, aI E 24 (am 22)), (ad 23, aI E 144 (am 23)), (ad 24, aI E 24 (am 24)), (ad 25, aI E 288 (am 25)), (ad 26, aJ E 288 (al 26))] [.ref mo, .int (nI q), .int z] (QI E (pX8_about E mo ad th kn rn mn dp am al pq a29 a30 a34 a35 a36 q z)) := by
  refine KT.start (cc := cX8_about) (maxL := 3) (ret := (some .int)) (by decide) rfl (Nat.le_of_ble_eq_true rfl) ?_
  intro p e s m below meth c A H hx hb hr hlocks hml hts hown hin hP hR0 hD hap hev hz hA hS ls hl
  have hl : lv_has ls 3 [(0, .ref mo), (1, .int (nI q)), (2, .int z)] := hl
  have hiX8 : ∀ w ∈ wsX80, w ∈ wsX8_about := fun _ h => List.mem_cons_of_mem _ (List.mem_append_right _ h)
  have hf192 := hts (.fieldLink RX8 192 "SignQuorumModel" "thrown" "I") (by decide +kernel)
  have hf33 := hts (.fieldLink RX8 33 "SignQuorumModel" "kind" "[I") (by decide +kernel)
  have hf36 := hts (.fieldLink RX8 36 "SignQuorumModel" "version" "[I") (by decide +kernel)
  have hf48 := hts (.fieldLink RX8 48 "SignQuorumModel" "told" "[I") (by decide +kernel)
  have hf57 := hts (.fieldLink RX8 57 "SignQuorumModel" "delegations" "[I") (by decide +kernel)
  have hf69 := hts (.fieldLink RX8 69 "SignQuorumModel" "paths" "[I") (by decide +kernel)
  have hf75 := hts (.fieldLink RX8 75 "SignQuorumModel" "signatures" "[I") (by decide +kernel)
  obtain ⟨h10, h12, h15, h18, h22, h24, hb10, hb12, hb15, hb18, hb22, hb24⟩ := hmk q (hq)
  refine lv_aload_n hx hb dX8_about_0 rfl (lv_at hl 0 rfl) ?_
  refine lv_iconst (v := 0) hx hb dX8_about_1 (by decide) ?_
  refine xpt TX8_0 (v := 0) hx hb hts hiX8 hown hev.1 hP hD hS 0 rfl (by decide) hf192 (Nat.le_of_ble_eq_true rfl) dX8_about_2 (fun H locs hP hD hS => ?_)
  have hP : va_P E.1 vwCl [(mo, .inr (9, mOb ad 0 (nI kn) (nI rn) (nI mn) (nI dp))), (ad 29, aI E 256 a29), (ad 30, aI E 32 a30), (ad 34, aI E 16 a34), (ad 35, aI E 8 a35), (ad 36, aI E 8 a36)] H := hP
  have hD : va_D A [(mo, .inr (9, mOb ad 0 (nI kn) (nI rn) (nI mn) (nI dp))), (ad 29, aI E 256 a29), (ad 30, aI E 32 a30), (ad 34, aI E 16 a34), (ad 35, aI E 8 a35), (ad 36, aI E 8 a36)] := hD
  refine lv_aload_n hx hb dX8_about_5 rfl (lv_at hl 0 rfl) ?_
  refine lv_iload_n hx hb dX8_about_6 rfl (lv_at hl 1 rfl) ?_
  have hP := hP.sub (ws' := [] ++ [(mo, .inr (9, mOb ad 0 (nI kn) (nI rn) (nI mn) (nI dp))), (ad 29, aI E 256 a29), (ad 30, aI E 32 a30), (ad 34, aI E 16 a34), (ad 35, aI E 8 a35), (ad 36, aI E 8 a36)]) [0, 1, 2, 3, 4, 5] rfl
  have hD := hD.sub (ws' := [] ++ [(mo, .inr (9, mOb ad 0 (nI kn) (nI rn) (nI mn) (nI dp))), (ad 29, aI E 256 a29), (ad 30, aI E 32 a30), (ad 34, aI E 16 a34), (ad 35, aI E 8 a35), (ad 36, aI E 8 a36)]) [0, 1, 2, 3, 4, 5] (by decide) rfl
  refine xci (va_runV (As := [.int (nI q)]) (rest := []) ⟨hx, hb, hml, hown, hts⟩ (kX8_isRow l E mo ad 0 kn rn mn dp (nI q) (by first | assumption | omega) H.size) (cwV 1 hts gX8_about_X8_isRow rfl rfl rfl (by decide +kernel) ⟨Nat.le_of_ble_eq_true rfl, Nat.le_of_ble_eq_true rfl⟩) ⟨CP.blind, (va_recv hev.1 hP (ci := 9) (q0 := 0) rfl rfl), (xpre hev hz hA hP hD hS hR0 hap [0] rfl)⟩ rfl rfl hl.1 rfl (lv_room (Nat.le_of_ble_eq_true rfl)) dX8_about_7 ⟨Nat.le_of_ble_eq_true rfl, Nat.le_of_ble_eq_true rfl⟩) hP hD hS hA (fun r1 w2 H locs h3 hP hD hS => ?_)
  obtain ⟨rfl, rfl, h3⟩ := h3
  try dsimp only at h3
  have hP : va_P E.1 vwCl [(mo, .inr (9, mOb ad 0 (nI kn) (nI rn) (nI mn) (nI dp))), (ad 29, aI E 256 a29), (ad 30, aI E 32 a30), (ad 34, aI E 16 a34), (ad 35, aI E 8 a35), (ad 36, aI E 8 a36)] H := hP
  have hD : va_D A [(mo, .inr (9, mOb ad 0 (nI kn) (nI rn) (nI mn) (nI dp))), (ad 29, aI E 256 a29), (ad 30, aI E 32 a30), (ad 34, aI E 16 a34), (ad 35, aI E 8 a35), (ad 36, aI E 8 a36)] := hD
  refine lv_if_ne (tgt := 15) hx hb dX8_about_10 (by decide) (fun c4 => ?_) (fun c4 => absurd c4 (b1_n.mpr (⟨q, hq, rfl⟩)))
  refine lv_iload_n hx hb dX8_about_15 rfl (lv_at hl 2 rfl) ?_
  by_cases t5 : z = 0
  · refine lv_tableIn (off := 44) (tgt := 60) hx hb dX8_about_16 (by rw [t5]; decide) (by rw [t5]; decide) (by rw [t5]; decide +kernel) (by decide) ?_
    refine lv_aload_n hx hb dX8_about_60 rfl (lv_at hl 0 rfl) ?_
    refine xgt TX8_10 (v := .ref (ad 10)) hx hb hts hiX8 hown hev.1 hP 0 rfl (by decide) hf33 rfl dX8_about_61 ?_
    refine lv_iload_n hx hb dX8_about_64 rfl (lv_at hl 1 rfl) ?_
    refine xiald (k := (q)) hx hb hev.1 (xro hR0 hap hS) 6 1 rfl rfl (by omega) (by decide) dX8_about_65 ?_
    refine xtop (y := nI (pq q 17)) (h10) ?_
    refine xri hx hb hr hlocks hP hD hS ⟨mn, a29, a30, a34, a35, a36, rfl, ?_, ?_⟩ dX8_about_66
    · rw [mabt, if_pos t5]
    · trivial
  · skip
    by_cases t6 : z = 1
    · refine lv_tableIn (off := 51) (tgt := 67) hx hb dX8_about_16 (by rw [t6]; decide) (by rw [t6]; decide) (by rw [t6]; decide +kernel) (by decide) ?_
      refine lv_aload_n hx hb dX8_about_67 rfl (lv_at hl 0 rfl) ?_
      refine xgt TX8_11 (v := .ref (ad 11)) hx hb hts hiX8 hown hev.1 hP 0 rfl (by decide) hf36 rfl dX8_about_68 ?_
      refine lv_iload_n hx hb dX8_about_71 rfl (lv_at hl 1 rfl) ?_
      refine xiald (k := (q)) hx hb hev.1 (xro hR0 hap hS) 7 1 rfl rfl (by omega) (by decide) dX8_about_72 ?_
      refine xri hx hb hr hlocks hP hD hS ⟨mn, a29, a30, a34, a35, a36, rfl, ?_, ?_⟩ dX8_about_73
      · rw [mabt, if_neg t5, if_pos t6]
      · trivial
    · skip
      by_cases t7 : z = 2
      · refine lv_tableIn (off := 58) (tgt := 74) hx hb dX8_about_16 (by rw [t7]; decide) (by rw [t7]; decide) (by rw [t7]; decide +kernel) (by decide) ?_
        refine lv_aload_n hx hb dX8_about_74 rfl (lv_at hl 0 rfl) ?_
        refine xgt TX8_24 (v := .ref (ad 24)) hx hb hts hiX8 hown hev.1 hP 0 rfl (by decide) hf75 rfl dX8_about_75 ?_
        refine lv_iload_n hx hb dX8_about_78 rfl (lv_at hl 1 rfl) ?_
        refine xiald (k := (q)) hx hb hev.1 (xro hR0 hap hS) 19 1 rfl rfl (by omega) (by decide) dX8_about_79 ?_
        refine xtop (y := nI (pq q 14)) (h24) ?_
        refine xri hx hb hr hlocks hP hD hS ⟨mn, a29, a30, a34, a35, a36, rfl, ?_, ?_⟩ dX8_about_80
        · rw [mabt, if_neg t5, if_neg t6, if_pos t7]
        · trivial
      · skip
        by_cases t8 : z = 3
        · refine lv_tableIn (off := 65) (tgt := 81) hx hb dX8_about_16 (by rw [t8]; decide) (by rw [t8]; decide) (by rw [t8]; decide +kernel) (by decide) ?_
          refine lv_aload_n hx hb dX8_about_81 rfl (lv_at hl 0 rfl) ?_
          refine lv_iload_n hx hb dX8_about_82 rfl (lv_at hl 1 rfl) ?_
          have hP := hP.sub (ws' := [(mo, .inr (9, mOb ad 0 (nI kn) (nI rn) (nI mn) (nI dp))), (ad 29, aI E 256 a29), (ad 30, aI E 32 a30), (ad 34, aI E 16 a34), (ad 35, aI E 8 a35), (ad 36, aI E 8 a36)] ++ []) [0, 1, 2, 3, 4, 5] rfl
          have hD := hD.sub (ws' := [(mo, .inr (9, mOb ad 0 (nI kn) (nI rn) (nI mn) (nI dp))), (ad 29, aI E 256 a29), (ad 30, aI E 32 a30), (ad 34, aI E 16 a34), (ad 35, aI E 8 a35), (ad 36, aI E 8 a36)] ++ []) [0, 1, 2, 3, 4, 5] (by decide) rfl
          refine xci (va_runV (As := [.int (nI q)]) (rest := []) ⟨hx, hb, hml, hown, hts⟩ (kX8_rightKeys l E mo ad 0 kn rn mn dp a29 a30 a34 a35 a36 (al 3) (al 14) (am 32) (am 33) (am 8) (am 9) (am 10) (am 11) (am 12) (am 13) (am 15) (am 16) (am 17) (am 18) (am 19) (am 20) (am 21) (am 22) (am 23) (am 24) (am 25) (al 26) q (pq q 17) (pq q 12) (pq q 15) (pq q 16) (pq q 13) (pq q 14) (by first | assumption | omega) (by first | assumption | omega) (by first | assumption | omega) (by first | assumption | omega) (by first | assumption | omega) (by first | assumption | omega) (by first | assumption | omega) (by first | assumption | omega) (by first | assumption | omega) (by first | assumption | omega) (by first | assumption | omega) (by first | assumption | omega) (by first | assumption | omega) (by first | assumption | omega) (by first | assumption | omega) (by first | assumption | omega) H.size) (cwV 1 hts gX8_about_X8_rightKeys rfl rfl rfl (by decide +kernel) ⟨Nat.le_of_ble_eq_true rfl, Nat.le_of_ble_eq_true rfl⟩) ⟨CP.blind, (va_recv hev.1 hP.left (ci := 9) (q0 := 0) rfl rfl), (xpre hev hz hA hP hD hS hR0 hap [0, 1, 2, 3, 4, 5, 6, 7, 8, 9, 10, 11, 12, 13, 14, 15, 16, 17, 18, 19, 20, 21] rfl)⟩ rfl rfl hl.1 rfl (lv_room (Nat.le_of_ble_eq_true rfl)) dX8_about_83 ⟨Nat.le_of_ble_eq_true rfl, Nat.le_of_ble_eq_true rfl⟩) hP hD hS hA (fun r9 w10 H locs h11 hP hD hS => ?_)
          obtain ⟨m212, g2913, g3014, g3415, g3516, g3617, rfl, rfl, h11⟩ := h11
          try dsimp only at h11
          have hP : va_P E.1 vwCl [(mo, .inr (9, mOb ad 0 (nI kn) (nI rn) (nI m212) (nI dp))), (ad 29, aI E 256 g2913), (ad 30, aI E 32 g3014), (ad 34, aI E 16 g3415), (ad 35, aI E 8 g3516), (ad 36, aI E 8 g3617)] H := hP
          have hD : va_D A [(mo, .inr (9, mOb ad 0 (nI kn) (nI rn) (nI m212) (nI dp))), (ad 29, aI E 256 g2913), (ad 30, aI E 32 g3014), (ad 34, aI E 16 g3415), (ad 35, aI E 8 g3516), (ad 36, aI E 8 g3617)] := hD
          refine xtop (y := mk (mHp am al pq q) kn) (rfl) ?_
          have hP := hP.sub (ws' := [] ++ [(mo, .inr (9, mOb ad 0 (nI kn) (nI rn) (nI m212) (nI dp))), (ad 29, aI E 256 g2913), (ad 30, aI E 32 g3014), (ad 34, aI E 16 g3415), (ad 35, aI E 8 g3516), (ad 36, aI E 8 g3617)]) [0, 1, 2, 3, 4, 5] rfl
          have hD := hD.sub (ws' := [] ++ [(mo, .inr (9, mOb ad 0 (nI kn) (nI rn) (nI m212) (nI dp))), (ad 29, aI E 256 g2913), (ad 30, aI E 32 g3014), (ad 34, aI E 16 g3415), (ad 35, aI E 8 g3516), (ad 36, aI E 8 g3617)]) [0, 1, 2, 3, 4, 5] (by decide) rfl
          refine xci (va_runS (As := [.int (mk (mHp am al pq q) kn)]) (rest := []) ⟨hx, hb, hml, hown, hts⟩ (kX8_bits l E (mk (mHp am al pq q) kn)  H.size) (va_cwS 1 hts gX8_about_X8_bits rfl rfl rfl (by decide +kernel) ⟨Nat.le_of_ble_eq_true rfl, Nat.le_of_ble_eq_true rfl⟩) ⟨CP.blind, (xpre hev hz hA hP hD hS hR0 hap [] rfl)⟩ rfl rfl hl.1 rfl (lv_room (Nat.le_of_ble_eq_true rfl)) dX8_about_86 ⟨Nat.le_of_ble_eq_true rfl, Nat.le_of_ble_eq_true rfl⟩) hP hD hS hA (fun r18 w19 H locs h20 hP hD hS => ?_)
          obtain ⟨rfl, rfl, h20⟩ := h20
          try dsimp only at h20
          have hP : va_P E.1 vwCl [(mo, .inr (9, mOb ad 0 (nI kn) (nI rn) (nI m212) (nI dp))), (ad 29, aI E 256 g2913), (ad 30, aI E 32 g3014), (ad 34, aI E 16 g3415), (ad 35, aI E 8 g3516), (ad 36, aI E 8 g3617)] H := hP
          have hD : va_D A [(mo, .inr (9, mOb ad 0 (nI kn) (nI rn) (nI m212) (nI dp))), (ad 29, aI E 256 g2913), (ad 30, aI E 32 g3014), (ad 34, aI E 16 g3415), (ad 35, aI E 8 g3516), (ad 36, aI E 8 g3617)] := hD
          refine xri hx hb hr hlocks hP hD hS ⟨m212, g2913, g3014, g3415, g3516, g3617, rfl, ?_, ?_⟩ dX8_about_89
          · rw [mabt, if_neg t5, if_neg t6, if_neg t7, if_pos t8]
          · trivial
        · skip
          by_cases t21 : z = 4
          · refine lv_tableIn (off := 74) (tgt := 90) hx hb dX8_about_16 (by rw [t21]; decide) (by rw [t21]; decide) (by rw [t21]; decide +kernel) (by decide) ?_
            refine lv_aload_n hx hb dX8_about_90 rfl (lv_at hl 0 rfl) ?_
            refine xgt TX8_15 (v := .ref (ad 15)) hx hb hts hiX8 hown hev.1 hP 0 rfl (by decide) hf48 rfl dX8_about_91 ?_
            refine lv_iload_n hx hb dX8_about_94 rfl (lv_at hl 1 rfl) ?_
            refine xiald (k := (q)) hx hb hev.1 (xro hR0 hap hS) 10 1 rfl rfl (by omega) (by decide) dX8_about_95 ?_
            refine xtop (y := nI (pq q 15)) (h15) ?_
            refine xri hx hb hr hlocks hP hD hS ⟨mn, a29, a30, a34, a35, a36, rfl, ?_, ?_⟩ dX8_about_96
            · rw [mabt, if_neg t5, if_neg t6, if_neg t7, if_neg t8, if_pos t21]
            · trivial
          · skip
            by_cases t22 : z = 5
            · refine lv_tableIn (off := 81) (tgt := 97) hx hb dX8_about_16 (by rw [t22]; decide) (by rw [t22]; decide) (by rw [t22]; decide +kernel) (by decide) ?_
              refine lv_aload_n hx hb dX8_about_97 rfl (lv_at hl 0 rfl) ?_
              refine xgt TX8_18 (v := .ref (ad 18)) hx hb hts hiX8 hown hev.1 hP 0 rfl (by decide) hf57 rfl dX8_about_98 ?_
              refine lv_iload_n hx hb dX8_about_101 rfl (lv_at hl 1 rfl) ?_
              refine xiald (k := (q)) hx hb hev.1 (xro hR0 hap hS) 13 1 rfl rfl (by omega) (by decide) dX8_about_102 ?_
              refine xtop (y := nI (pq q 16)) (h18) ?_
              refine xri hx hb hr hlocks hP hD hS ⟨mn, a29, a30, a34, a35, a36, rfl, ?_, ?_⟩ dX8_about_103
              · rw [mabt, if_neg t5, if_neg t6, if_neg t7, if_neg t8, if_neg t21, if_pos t22]
              · trivial
            · skip
              by_cases t23 : z = 6
              · refine lv_tableIn (off := 88) (tgt := 104) hx hb dX8_about_16 (by rw [t23]; decide) (by rw [t23]; decide) (by rw [t23]; decide +kernel) (by decide) ?_
                refine lv_aload_n hx hb dX8_about_104 rfl (lv_at hl 0 rfl) ?_
                refine xgt TX8_22 (v := .ref (ad 22)) hx hb hts hiX8 hown hev.1 hP 0 rfl (by decide) hf69 rfl dX8_about_105 ?_
                refine lv_iload_n hx hb dX8_about_108 rfl (lv_at hl 1 rfl) ?_
                refine xiald (k := (q)) hx hb hev.1 (xro hR0 hap hS) 17 1 rfl rfl (by omega) (by decide) dX8_about_109 ?_
                refine xtop (y := nI (pq q 13)) (h22) ?_
                refine xri hx hb hr hlocks hP hD hS ⟨mn, a29, a30, a34, a35, a36, rfl, ?_, ?_⟩ dX8_about_110
                · rw [mabt, if_neg t5, if_neg t6, if_neg t7, if_neg t8, if_neg t21, if_neg t22, if_pos t23]
                · trivial
              · skip
                refine lv_tableOut (tgt := 111) hx hb dX8_about_16 (xtab6 t5 t6 t7 t8 t21 t22 t23) (by decide) ?_
                refine lv_iconst (v := (-1)) hx hb dX8_about_111 (by decide) ?_
                refine xri hx hb hr hlocks hP hD hS ⟨mn, a29, a30, a34, a35, a36, rfl, ?_, ?_⟩ dX8_about_112
                · rw [mabt, if_neg t5, if_neg t6, if_neg t7, if_neg t8, if_neg t21, if_neg t22, if_neg t23]
                · trivial

abbrev pX8_aboutN (E : xE) (mo : Nat) (ad : Nat → Nat) (th : Int32) (kn : Nat) (rn : Nat) (mn : Nat) (dp : Nat) (y : Int32) (z : Int32) (r : Int32) (w : va_W) : Prop := w = [(mo, .inr (9, mOb ad 0 (nI kn) (nI rn) (nI mn) (nI dp)))] ∧ r = -1 ∧ (True)
set_option maxHeartbeats 4000000 in
set_option maxRecDepth 100000 in
theorem kX8_aboutN (l : Launch) (E : xE) (mo : Nat) (ad : Nat → Nat) (th : Int32) (kn : Nat) (rn : Nat) (mn : Nat) (dp : Nat) (y : Int32) (z : Int32) (hrn : rn ≤ 24) (hno : ¬ isN y rn) : KT l yX8_about wsX8_about 1 21 0 0 E [(mo, .inr (9, mOb ad th (nI kn) (nI rn) (nI mn) (nI dp)))] [] [.ref mo, .int y, .int z] (QI E (pX8_aboutN E mo ad th kn rn mn dp y z)) := by
  refine KT.start (cc := cX8_about) (maxL := 3) (ret := (some .int)) (by decide) rfl (Nat.le_of_ble_eq_true rfl) ?_
  intro p e s m below meth c A H hx hb hr hlocks hml hts hown hin hP hR0 hD hap hev hz hA hS ls hl
  have hl : lv_has ls 3 [(0, .ref mo), (1, .int y), (2, .int z)] := hl
  have hiX8 : ∀ w ∈ wsX80, w ∈ wsX8_about := fun _ h => List.mem_cons_of_mem _ (List.mem_append_right _ h)
  have hf192 := hts (.fieldLink RX8 192 "SignQuorumModel" "thrown" "I") (by decide +kernel)
  refine lv_aload_n hx hb dX8_about_0 rfl (lv_at hl 0 rfl) ?_
  refine lv_iconst (v := 0) hx hb dX8_about_1 (by decide) ?_
  refine xpt TX8_0 (v := 0) hx hb hts hiX8 hown hev.1 hP hD hS 0 rfl (by decide) hf192 (Nat.le_of_ble_eq_true rfl) dX8_about_2 (fun H locs hP hD hS => ?_)
  have hP : va_P E.1 vwCl [(mo, .inr (9, mOb ad 0 (nI kn) (nI rn) (nI mn) (nI dp)))] H := hP
  have hD : va_D A [(mo, .inr (9, mOb ad 0 (nI kn) (nI rn) (nI mn) (nI dp)))] := hD
  refine lv_aload_n hx hb dX8_about_5 rfl (lv_at hl 0 rfl) ?_
  refine lv_iload_n hx hb dX8_about_6 rfl (lv_at hl 1 rfl) ?_
  have hP := hP.sub (ws' := [] ++ [(mo, .inr (9, mOb ad 0 (nI kn) (nI rn) (nI mn) (nI dp)))]) [0] rfl
  have hD := hD.sub (ws' := [] ++ [(mo, .inr (9, mOb ad 0 (nI kn) (nI rn) (nI mn) (nI dp)))]) [0] (by decide) rfl
  refine xci (va_runV (As := [.int y]) (rest := []) ⟨hx, hb, hml, hown, hts⟩ (kX8_isRow l E mo ad 0 kn rn mn dp y (by first | assumption | omega) H.size) (cwV 1 hts gX8_about_X8_isRow rfl rfl rfl (by decide +kernel) ⟨Nat.le_of_ble_eq_true rfl, Nat.le_of_ble_eq_true rfl⟩) ⟨CP.blind, (va_recv hev.1 hP (ci := 9) (q0 := 0) rfl rfl), (xpre hev hz hA hP hD hS hR0 hap [0] rfl)⟩ rfl rfl hl.1 rfl (lv_room (Nat.le_of_ble_eq_true rfl)) dX8_about_7 ⟨Nat.le_of_ble_eq_true rfl, Nat.le_of_ble_eq_true rfl⟩) hP hD hS hA (fun r1 w2 H locs h3 hP hD hS => ?_)
  obtain ⟨rfl, rfl, h3⟩ := h3
  try dsimp only at h3
  have hP : va_P E.1 vwCl [(mo, .inr (9, mOb ad 0 (nI kn) (nI rn) (nI mn) (nI dp)))] H := hP
  have hD : va_D A [(mo, .inr (9, mOb ad 0 (nI kn) (nI rn) (nI mn) (nI dp)))] := hD
  refine lv_if_ne (tgt := 15) hx hb dX8_about_10 (by decide) (fun c4 => absurd c4 (fun h9 => h9 (b1_0.mpr (hno)))) (fun c4 => ?_)
  refine lv_iconst (v := (-1)) hx hb dX8_about_13 (by decide) ?_
  refine xri hx hb hr hlocks hP hD hS ⟨rfl, ?_, ?_⟩ dX8_about_14
  · rfl
  · trivial
