abbrev pX8_putRow (E : xE) (mo : Nat) (ad : Nat → Nat) (th : Int32) (kn : Nat) (rn : Nat) (mn : Nat) (dp : Nat) (a29 : Nat → Int32) (a14 : Nat → Int64) (a8 : Nat → Int32) (a9 : Nat → Int32) (a10 : Nat → Int32) (a11 : Nat → Int32) (a12 : Nat → Int32) (a13 : Nat → Int32) (a15 : Nat → Int32) (a16 : Nat → Int32) (a17 : Nat → Int32) (a18 : Nat → Int32) (a19 : Nat → Int32) (a20 : Nat → Int32) (a21 : Nat → Int32) (a22 : Nat → Int32) (a23 : Nat → Int32) (r : Nat) (rl : Nat) (oc : Nat) (tn : Nat) (dn : Nat) (pn : Nat) (w : va_W) : Prop := ∃ (g : Nat → Int32), w = [(mo, .inr (9, mOb ad th (nI kn) (nI rn) (nI (mn + (mrowB rl (a11 r) (a14 r) oc a13 a8 a9 tn a16 a17 dn a19 a20 a21 pn a23 r).length)) (nI dp))), (ad 29, aI E 256 g)] ∧ (g = ap a29 mn (mrowB rl (a11 r) (a14 r) oc a13 a8 a9 tn a16 a17 dn a19 a20 a21 pn a23 r))
set_option maxHeartbeats 8000000 in
set_option maxRecDepth 100000 in
theorem kX8_putRow (l : Launch) (E : xE) (mo : Nat) (ad : Nat → Nat) (th : Int32) (kn : Nat) (rn : Nat) (mn : Nat) (dp : Nat) (a29 : Nat → Int32) (a14 : Nat → Int64) (a8 : Nat → Int32) (a9 : Nat → Int32) (a10 : Nat → Int32) (a11 : Nat → Int32) (a12 : Nat → Int32) (a13 : Nat → Int32) (a15 : Nat → Int32) (a16 : Nat → Int32) (a17 : Nat → Int32) (a18 : Nat → Int32) (a19 : Nat → Int32) (a20 : Nat → Int32) (a21 : Nat → Int32) (a22 : Nat → Int32) (a23 : Nat → Int32) (r : Nat) (rl : Nat) (oc : Nat) (tn : Nat) (dn : Nat) (pn : Nat) (hmn : mn ≤ 8) (hr24 : r < 24) (ha10 : a10 r = nI rl) (ha12 : a12 r = nI oc) (ha15 : a15 r = nI tn) (ha18 : a18 r = nI dn) (ha22 : a22 r = nI pn) (hrl : rl < 10) (hoc : oc ≤ 16) (htn : tn ≤ 7) (hdn : dn ≤ 6) (hpn : pn ≤ 6) : KT l yX8_putRow wsX8_putRow 1 24 0 0 E [(mo, .inr (9, mOb ad th (nI kn) (nI rn) (nI mn) (nI dp))), (ad 29, aI E 256 a29)] [(ad 14, aJ E 24 a14), (ad 8, aI E 240 a8), (ad 9, aI E 240 a9), (ad 10, aI E 24 a10), (ad 11, aI E 24 a11), (ad 12, aI E 24 a12), (ad 13, aI E 384 a13), (ad 15, aI E 24 a15), (ad 16, aI E 168 a16), (ad 17, aI E 168 a17), (ad 18, aI E 24 a18), (ad 19, aI E 144 a19), (ad 20, aI E 144 a20), (ad 21, aZ E 144 a21), (ad 22, aI E 24 a22), (ad 23, aI E 144 a23)] [.ref mo, .int (nI r)] (QV E (pX8_putRow E mo ad th kn rn mn dp a29 a14 a8 a9 a10 a11 a12 a13 a15 a16 a17 a18 a19 a20 a21 a22 a23 r rl oc tn dn pn)) := by
  refine KT.start (cc := cX8_putRow) (maxL := 3) (ret := none) (by decide) rfl (Nat.le_of_ble_eq_true rfl) ?_
  intro p e s m below meth c A H hx hb hr hlocks hml hts hown hin hP hR0 hD hap hev hz hA hS ls hl
  have hl : lv_has ls 3 [(0, .ref mo), (1, .int (nI r))] := hl
  have hiX8 : ∀ w ∈ wsX80, w ∈ wsX8_putRow := fun _ h => List.mem_cons_of_mem _ (List.mem_append_right _ h)
  have hf27 := hts (.fieldLink RX8 27 "SignQuorumModel" "quorums" "[I") (by decide +kernel)
  have hf30 := hts (.fieldLink RX8 30 "SignQuorumModel" "sets" "[I") (by decide +kernel)
  have hf33 := hts (.fieldLink RX8 33 "SignQuorumModel" "kind" "[I") (by decide +kernel)
  have hf36 := hts (.fieldLink RX8 36 "SignQuorumModel" "version" "[I") (by decide +kernel)
  have hf39 := hts (.fieldLink RX8 39 "SignQuorumModel" "octets" "[I") (by decide +kernel)
  have hf42 := hts (.fieldLink RX8 42 "SignQuorumModel" "octet" "[I") (by decide +kernel)
  have hf45 := hts (.fieldLink RX8 45 "SignQuorumModel" "until" "[J") (by decide +kernel)
  have hf48 := hts (.fieldLink RX8 48 "SignQuorumModel" "told" "[I") (by decide +kernel)
  have hf51 := hts (.fieldLink RX8 51 "SignQuorumModel" "toldRole" "[I") (by decide +kernel)
  have hf54 := hts (.fieldLink RX8 54 "SignQuorumModel" "toldVersion" "[I") (by decide +kernel)
  have hf57 := hts (.fieldLink RX8 57 "SignQuorumModel" "delegations" "[I") (by decide +kernel)
  have hf60 := hts (.fieldLink RX8 60 "SignQuorumModel" "pattern" "[I") (by decide +kernel)
  have hf63 := hts (.fieldLink RX8 63 "SignQuorumModel" "to" "[I") (by decide +kernel)
  have hf66 := hts (.fieldLink RX8 66 "SignQuorumModel" "last" "[Z") (by decide +kernel)
  have hf69 := hts (.fieldLink RX8 69 "SignQuorumModel" "paths" "[I") (by decide +kernel)
  have hf72 := hts (.fieldLink RX8 72 "SignQuorumModel" "path" "[I") (by decide +kernel)
  refine lv_aload_n hx hb dX8_putRow_0 rfl (lv_at hl 0 rfl) ?_
  refine lv_aload_n hx hb dX8_putRow_1 rfl (lv_at hl 0 rfl) ?_
  refine xgt TX8_10 (v := .ref (ad 10)) hx hb hts hiX8 hown hev.1 hP 0 rfl (by decide) hf33 rfl dX8_putRow_2 ?_
  refine lv_iload_n hx hb dX8_putRow_5 rfl (lv_at hl 1 rfl) ?_
  refine xiald (k := (r)) hx hb hev.1 (xro hR0 hap hS) 3 1 rfl rfl (by omega) (by decide) dX8_putRow_6 ?_
  refine xtop (y := nI rl) (ha10) ?_
  refine lv_i2l (v := (nI rl).toInt64) hx hb dX8_putRow_7 rfl ?_
  refine lv_iconst (v := 1) hx hb dX8_putRow_8 (by decide) ?_
  have hP := hP.sub (ws' := [(mo, .inr (9, mOb ad th (nI kn) (nI rn) (nI mn) (nI dp))), (ad 29, aI E 256 a29)] ++ []) [0, 1] rfl
  have hD := hD.sub (ws' := [(mo, .inr (9, mOb ad th (nI kn) (nI rn) (nI mn) (nI dp))), (ad 29, aI E 256 a29)] ++ []) [0, 1] (by decide) rfl
  refine xcv (va_runV (As := [.long ((nI rl).toInt64), .int 1]) (rest := []) ⟨hx, hb, hml, hown, hts⟩ (kX8_put1 l E mo ad th kn rn mn dp a29 ((nI rl).toInt64) (by first | assumption | omega) H.size) (cwV 2 hts gX8_putRow_X8_put rfl rfl rfl (by decide +kernel) ⟨Nat.le_of_ble_eq_true rfl, Nat.le_of_ble_eq_true rfl⟩) ⟨CP.blind, (va_recv hev.1 hP.left (ci := 9) (q0 := 0) rfl rfl), (xpre hev hz hA hP hD hS hR0 hap [] rfl)⟩ rfl rfl hl.1 rfl (lv_room (Nat.le_of_ble_eq_true rfl)) dX8_putRow_9 ⟨Nat.le_of_ble_eq_true rfl, Nat.le_of_ble_eq_true rfl⟩) hP hD hS hA (fun w2 H locs h3 hP hD hS => ?_)
  obtain ⟨g4, rfl, h3⟩ := h3
  try dsimp only at h3
  have hP : va_P E.1 vwCl [(mo, .inr (9, mOb ad th (nI kn) (nI rn) (nI (mn + 1)) (nI dp))), (ad 29, aI E 256 g4)] H := hP
  have hD : va_D A [(mo, .inr (9, mOb ad th (nI kn) (nI rn) (nI (mn + 1)) (nI dp))), (ad 29, aI E 256 g4)] := hD
  refine lv_aload_n hx hb dX8_putRow_12 rfl (lv_at hl 0 rfl) ?_
  refine lv_aload_n hx hb dX8_putRow_13 rfl (lv_at hl 0 rfl) ?_
  refine xgt TX8_11 (v := .ref (ad 11)) hx hb hts hiX8 hown hev.1 hP 0 rfl (by decide) hf36 rfl dX8_putRow_14 ?_
  refine lv_iload_n hx hb dX8_putRow_17 rfl (lv_at hl 1 rfl) ?_
  refine xiald (k := (r)) hx hb hev.1 (xro hR0 hap hS) 4 1 rfl rfl (by omega) (by decide) dX8_putRow_18 ?_
  refine lv_i2l (v := (a11 r).toInt64) hx hb dX8_putRow_19 rfl ?_
  refine lv_iconst (v := 4) hx hb dX8_putRow_20 (by decide) ?_
  have hP := hP.sub (ws' := [(mo, .inr (9, mOb ad th (nI kn) (nI rn) (nI (mn + 1)) (nI dp))), (ad 29, aI E 256 g4)] ++ []) [0, 1] rfl
  have hD := hD.sub (ws' := [(mo, .inr (9, mOb ad th (nI kn) (nI rn) (nI (mn + 1)) (nI dp))), (ad 29, aI E 256 g4)] ++ []) [0, 1] (by decide) rfl
  refine xcv (va_runV (As := [.long ((a11 r).toInt64), .int 4]) (rest := []) ⟨hx, hb, hml, hown, hts⟩ (kX8_put4 l E mo ad th kn rn (mn + 1) dp g4 ((a11 r).toInt64) (by first | assumption | omega) H.size) (cwV 2 hts gX8_putRow_X8_put rfl rfl rfl (by decide +kernel) ⟨Nat.le_of_ble_eq_true rfl, Nat.le_of_ble_eq_true rfl⟩) ⟨CP.blind, (va_recv hev.1 hP.left (ci := 9) (q0 := 0) rfl rfl), (xpre hev hz hA hP hD hS hR0 hap [] rfl)⟩ rfl rfl hl.1 rfl (lv_room (Nat.le_of_ble_eq_true rfl)) dX8_putRow_21 ⟨Nat.le_of_ble_eq_true rfl, Nat.le_of_ble_eq_true rfl⟩) hP hD hS hA (fun w6 H locs h7 hP hD hS => ?_)
  obtain ⟨g8, rfl, h7⟩ := h7
  try dsimp only at h7
  try rw [show ((mn + 1) + 4 : Nat) = mn + 5 by omega] at hP hD
  have hP : va_P E.1 vwCl [(mo, .inr (9, mOb ad th (nI kn) (nI rn) (nI (mn + 5)) (nI dp))), (ad 29, aI E 256 g8)] H := hP
  have hD : va_D A [(mo, .inr (9, mOb ad th (nI kn) (nI rn) (nI (mn + 5)) (nI dp))), (ad 29, aI E 256 g8)] := hD
  refine lv_aload_n hx hb dX8_putRow_24 rfl (lv_at hl 0 rfl) ?_
  refine lv_aload_n hx hb dX8_putRow_25 rfl (lv_at hl 0 rfl) ?_
  refine xgt TX8_14 (v := .ref (ad 14)) hx hb hts hiX8 hown hev.1 hP 0 rfl (by decide) hf45 rfl dX8_putRow_26 ?_
  refine lv_iload_n hx hb dX8_putRow_29 rfl (lv_at hl 1 rfl) ?_
  refine xlald (k := (r)) hx hb hev.1 (xro hR0 hap hS) 0 2 rfl rfl (by omega) (by decide) dX8_putRow_30 ?_
  refine lv_bipush (v := 8) hx hb dX8_putRow_31 (by decide) ?_
  have hP := hP.sub (ws' := [(mo, .inr (9, mOb ad th (nI kn) (nI rn) (nI (mn + 5)) (nI dp))), (ad 29, aI E 256 g8)] ++ []) [0, 1] rfl
  have hD := hD.sub (ws' := [(mo, .inr (9, mOb ad th (nI kn) (nI rn) (nI (mn + 5)) (nI dp))), (ad 29, aI E 256 g8)] ++ []) [0, 1] (by decide) rfl
  refine xcv (va_runV (As := [.long (a14 r), .int 8]) (rest := []) ⟨hx, hb, hml, hown, hts⟩ (kX8_put8 l E mo ad th kn rn (mn + 5) dp g8 (a14 r) (by first | assumption | omega) H.size) (cwV 2 hts gX8_putRow_X8_put rfl rfl rfl (by decide +kernel) ⟨Nat.le_of_ble_eq_true rfl, Nat.le_of_ble_eq_true rfl⟩) ⟨CP.blind, (va_recv hev.1 hP.left (ci := 9) (q0 := 0) rfl rfl), (xpre hev hz hA hP hD hS hR0 hap [] rfl)⟩ rfl rfl hl.1 rfl (lv_room (Nat.le_of_ble_eq_true rfl)) dX8_putRow_33 ⟨Nat.le_of_ble_eq_true rfl, Nat.le_of_ble_eq_true rfl⟩) hP hD hS hA (fun w10 H locs h11 hP hD hS => ?_)
  obtain ⟨g12, rfl, h11⟩ := h11
  try dsimp only at h11
  try rw [show ((mn + 5) + 8 : Nat) = mn + 13 by omega] at hP hD
  have hP : va_P E.1 vwCl [(mo, .inr (9, mOb ad th (nI kn) (nI rn) (nI (mn + 13)) (nI dp))), (ad 29, aI E 256 g12)] H := hP
  have hD : va_D A [(mo, .inr (9, mOb ad th (nI kn) (nI rn) (nI (mn + 13)) (nI dp))), (ad 29, aI E 256 g12)] := hD
  refine lv_aload_n hx hb dX8_putRow_36 rfl (lv_at hl 0 rfl) ?_
  refine lv_aload_n hx hb dX8_putRow_37 rfl (lv_at hl 0 rfl) ?_
  refine xgt TX8_12 (v := .ref (ad 12)) hx hb hts hiX8 hown hev.1 hP 0 rfl (by decide) hf39 rfl dX8_putRow_38 ?_
  refine lv_iload_n hx hb dX8_putRow_41 rfl (lv_at hl 1 rfl) ?_
  refine xiald (k := (r)) hx hb hev.1 (xro hR0 hap hS) 5 1 rfl rfl (by omega) (by decide) dX8_putRow_42 ?_
  refine xtop (y := nI oc) (ha12) ?_
  refine lv_i2l (v := (nI oc).toInt64) hx hb dX8_putRow_43 rfl ?_
  refine lv_iconst (v := 1) hx hb dX8_putRow_44 (by decide) ?_
  have hP := hP.sub (ws' := [(mo, .inr (9, mOb ad th (nI kn) (nI rn) (nI (mn + 13)) (nI dp))), (ad 29, aI E 256 g12)] ++ []) [0, 1] rfl
  have hD := hD.sub (ws' := [(mo, .inr (9, mOb ad th (nI kn) (nI rn) (nI (mn + 13)) (nI dp))), (ad 29, aI E 256 g12)] ++ []) [0, 1] (by decide) rfl
  refine xcv (va_runV (As := [.long ((nI oc).toInt64), .int 1]) (rest := []) ⟨hx, hb, hml, hown, hts⟩ (kX8_put1 l E mo ad th kn rn (mn + 13) dp g12 ((nI oc).toInt64) (by first | assumption | omega) H.size) (cwV 2 hts gX8_putRow_X8_put rfl rfl rfl (by decide +kernel) ⟨Nat.le_of_ble_eq_true rfl, Nat.le_of_ble_eq_true rfl⟩) ⟨CP.blind, (va_recv hev.1 hP.left (ci := 9) (q0 := 0) rfl rfl), (xpre hev hz hA hP hD hS hR0 hap [] rfl)⟩ rfl rfl hl.1 rfl (lv_room (Nat.le_of_ble_eq_true rfl)) dX8_putRow_45 ⟨Nat.le_of_ble_eq_true rfl, Nat.le_of_ble_eq_true rfl⟩) hP hD hS hA (fun w14 H locs h15 hP hD hS => ?_)
  obtain ⟨g16, rfl, h15⟩ := h15
  try dsimp only at h15
  try rw [show ((mn + 13) + 1 : Nat) = mn + 14 by omega] at hP hD
  have hP : va_P E.1 vwCl [(mo, .inr (9, mOb ad th (nI kn) (nI rn) (nI (mn + 14)) (nI dp))), (ad 29, aI E 256 g16)] H := hP
  have hD : va_D A [(mo, .inr (9, mOb ad th (nI kn) (nI rn) (nI (mn + 14)) (nI dp))), (ad 29, aI E 256 g16)] := hD
  refine lv_iconst (v := 0) hx hb dX8_putRow_48 (by decide) ?_
  refine lv_istore_n (lv' := [(2, .int 0), (0, .ref mo), (1, .int (nI r))]) hx hb dX8_putRow_49 rfl hl (by decide) rfl (fun ls hl => ?_)
  have loop50 : ∀ (fz : Nat) (i : Nat) (g : Nat → Int32), (i ≤ oc) → (g = ap a29 mn ((((uB1 (nI rl).toInt64 ++ uB4 (a11 r).toInt64) ++ uB8 (a14 r)) ++ uB1 (nI oc).toInt64) ++ m1 a13 (16 * r) i)) → (oc - i < fz) → ∀ (H : Heap) (locs : List Loc), va_P E.1 vwCl [(mo, .inr (9, mOb ad th (nI kn) (nI rn) (nI (mn + 14 + i)) (nI dp))), (ad 29, aI E 256 g)] H → va_D A [(mo, .inr (9, mOb ad th (nI kn) (nI rn) (nI (mn + 14 + i)) (nI dp))), (ad 29, aI E 256 g)] → va_S A s.heap H locs → ∀ ls : Array Slot, lv_has ls 3 [(2, .int (nI i)), (0, .ref mo), (1, .int (nI r))] → W p l e ({ frames := 1, cells := 0, slots := 0, locals := 24 } : Room) s m ([.ref mo, .int (nI r)] : List Value).toArray below meth c H locs 0 0 (MQ below (QV E (pX8_putRow E mo ad th kn rn mn dp a29 a14 a8 a9 a10 a11 a12 a13 a15 a16 a17 a18 a19 a20 a21 a22 a23 r rl oc tn dn pn) A) ([.ref mo, .int (nI r)] : List Value).toArray s 0 0 A) (F0 m 50 ls []) := by
    intro fz
    induction fz with
    | zero =>
      intro i g hi hg hfuel
      exact absurd hfuel (by omega)
    | succ fz ih =>
      intro i g hi hg hfuel H locs hP hD hS ls hl
      refine lv_iload_n hx hb dX8_putRow_50 rfl (lv_at hl 0 rfl) ?_
      refine lv_aload_n hx hb dX8_putRow_51 rfl (lv_at hl 1 rfl) ?_
      refine xgt TX8_12 (v := .ref (ad 12)) hx hb hts hiX8 hown hev.1 hP 0 rfl (by decide) hf39 rfl dX8_putRow_52 ?_
      refine lv_iload_n hx hb dX8_putRow_55 rfl (lv_at hl 2 rfl) ?_
      refine xiald (k := (r)) hx hb hev.1 (xro hR0 hap hS) 5 1 rfl rfl (by omega) (by decide) dX8_putRow_56 ?_
      refine xtop (y := nI oc) (ha12) ?_
      refine lv_icmp_ge (tgt := 83) hx hb dX8_putRow_57 (by decide) (fun c17 => ?_) (fun c17 => ?_)
      · skip
        have kc17 : oc ≤ i := (nI_leI (a := oc) (b := i) (by omega) (by omega)).mp c17
        have hin9 : i = oc := by omega
        rw [hin9] at hP hD hg
        have hP : va_P E.1 vwCl [(mo, .inr (9, mOb ad th (nI kn) (nI rn) (nI (mn + 14 + oc)) (nI dp))), (ad 29, aI E 256 g)] H := hP
        have hD : va_D A [(mo, .inr (9, mOb ad th (nI kn) (nI rn) (nI (mn + 14 + oc)) (nI dp))), (ad 29, aI E 256 g)] := hD
        have hg : g = ap a29 mn (mH rl (a11 r) (a14 r) oc a13 r) := hg
        refine lv_aload_n hx hb dX8_putRow_83 rfl (lv_at hl 1 rfl) ?_
        refine xgt TX8_10 (v := .ref (ad 10)) hx hb hts hiX8 hown hev.1 hP 0 rfl (by decide) hf33 rfl dX8_putRow_84 ?_
        refine lv_iload_n hx hb dX8_putRow_87 rfl (lv_at hl 2 rfl) ?_
        refine xiald (k := (r)) hx hb hev.1 (xro hR0 hap hS) 3 1 rfl rfl (by omega) (by decide) dX8_putRow_88 ?_
        refine xtop (y := nI rl) (ha10) ?_
        refine lv_if_ne (tgt := 143) hx hb dX8_putRow_89 (by decide) (fun c18 => ?_) (fun c18 => ?_)
        · skip
          have kc18 : ¬ rl = 0 := fun h9 => c18 ((nI_eq (a := rl) (b := 0) (by omega) (by omega)).mpr h9)
          refine lv_aload_n hx hb dX8_putRow_143 rfl (lv_at hl 1 rfl) ?_
          refine xgt TX8_10 (v := .ref (ad 10)) hx hb hts hiX8 hown hev.1 hP 0 rfl (by decide) hf33 rfl dX8_putRow_144 ?_
          refine lv_iload_n hx hb dX8_putRow_147 rfl (lv_at hl 2 rfl) ?_
          refine xiald (k := (r)) hx hb hev.1 (xro hR0 hap hS) 3 1 rfl rfl (by omega) (by decide) dX8_putRow_148 ?_
          refine xtop (y := nI rl) (ha10) ?_
          refine lv_iconst (v := 3) hx hb dX8_putRow_149 (by decide) ?_
          refine lv_icmp_ge (tgt := 218) hx hb dX8_putRow_150 (by decide) (fun c19 => ?_) (fun c19 => ?_)
          · skip
            have kc19 : 3 ≤ rl := (nI_leI (a := 3) (b := rl) (by omega) (by omega)).mp c19
            refine lv_aload_n hx hb dX8_putRow_218 rfl (lv_at hl 1 rfl) ?_
            refine lv_aload_n hx hb dX8_putRow_219 rfl (lv_at hl 1 rfl) ?_
            refine xgt TX8_18 (v := .ref (ad 18)) hx hb hts hiX8 hown hev.1 hP 0 rfl (by decide) hf57 rfl dX8_putRow_220 ?_
            refine lv_iload_n hx hb dX8_putRow_223 rfl (lv_at hl 2 rfl) ?_
            refine xiald (k := (r)) hx hb hev.1 (xro hR0 hap hS) 10 1 rfl rfl (by omega) (by decide) dX8_putRow_224 ?_
            refine xtop (y := nI dn) (ha18) ?_
            refine lv_i2l (v := (nI dn).toInt64) hx hb dX8_putRow_225 rfl ?_
            refine lv_iconst (v := 1) hx hb dX8_putRow_226 (by decide) ?_
            have hP := hP.sub (ws' := [(mo, .inr (9, mOb ad th (nI kn) (nI rn) (nI (mn + 14 + oc)) (nI dp))), (ad 29, aI E 256 g)] ++ []) [0, 1] rfl
            have hD := hD.sub (ws' := [(mo, .inr (9, mOb ad th (nI kn) (nI rn) (nI (mn + 14 + oc)) (nI dp))), (ad 29, aI E 256 g)] ++ []) [0, 1] (by decide) rfl
            refine xcv (va_runV (As := [.long ((nI dn).toInt64), .int 1]) (rest := []) ⟨hx, hb, hml, hown, hts⟩ (kX8_put1 l E mo ad th kn rn (mn + 14 + oc) dp g ((nI dn).toInt64) (by first | assumption | omega) H.size) (cwV 2 hts gX8_putRow_X8_put rfl rfl rfl (by decide +kernel) ⟨Nat.le_of_ble_eq_true rfl, Nat.le_of_ble_eq_true rfl⟩) ⟨CP.blind, (va_recv hev.1 hP.left (ci := 9) (q0 := 0) rfl rfl), (xpre hev hz hA hP hD hS hR0 hap [] rfl)⟩ rfl rfl hl.1 rfl (lv_room (Nat.le_of_ble_eq_true rfl)) dX8_putRow_227 ⟨Nat.le_of_ble_eq_true rfl, Nat.le_of_ble_eq_true rfl⟩) hP hD hS hA (fun w21 H locs h22 hP hD hS => ?_)
            obtain ⟨g23, rfl, h22⟩ := h22
            try dsimp only at h22
            try rw [show ((mn + 14 + oc) + 1 : Nat) = mn + oc + 15 by omega] at hP hD
            have hP : va_P E.1 vwCl [(mo, .inr (9, mOb ad th (nI kn) (nI rn) (nI (mn + oc + 15)) (nI dp))), (ad 29, aI E 256 g23)] H := hP
            have hD : va_D A [(mo, .inr (9, mOb ad th (nI kn) (nI rn) (nI (mn + oc + 15)) (nI dp))), (ad 29, aI E 256 g23)] := hD
            refine lv_bipush (v := 6) hx hb dX8_putRow_230 (by decide) ?_
            refine lv_iload_n hx hb dX8_putRow_232 rfl (lv_at hl 2 rfl) ?_
            refine lv_imul hx hb dX8_putRow_233 ?_
            refine xtop (y := nI (6 * r)) (pk_mul _ _) ?_
            refine lv_istore_n (lv' := [(2, .int (nI (6 * r))), (0, .ref mo), (1, .int (nI r))]) hx hb dX8_putRow_234 rfl hl (by decide) rfl (fun ls hl => ?_)
            have loop235 : ∀ (fz : Nat) (j : Nat) (gg : Nat → Int32), (j ≤ dn) → (gg = ap a29 mn ((mH rl (a11 r) (a14 r) oc a13 r ++ uB1 (nI dn).toInt64) ++ m6 a19 a20 a21 (6 * r) j)) → (dn - j < fz) → ∀ (H : Heap) (locs : List Loc), va_P E.1 vwCl [(mo, .inr (9, mOb ad th (nI kn) (nI rn) (nI (mn + oc + 15 + 6 * j)) (nI dp))), (ad 29, aI E 256 gg)] H → va_D A [(mo, .inr (9, mOb ad th (nI kn) (nI rn) (nI (mn + oc + 15 + 6 * j)) (nI dp))), (ad 29, aI E 256 gg)] → va_S A s.heap H locs → ∀ ls : Array Slot, lv_has ls 3 [(2, .int (nI (6 * r + j))), (0, .ref mo), (1, .int (nI r))] → W p l e ({ frames := 1, cells := 0, slots := 0, locals := 24 } : Room) s m ([.ref mo, .int (nI r)] : List Value).toArray below meth c H locs 0 0 (MQ below (QV E (pX8_putRow E mo ad th kn rn mn dp a29 a14 a8 a9 a10 a11 a12 a13 a15 a16 a17 a18 a19 a20 a21 a22 a23 r rl oc tn dn pn) A) ([.ref mo, .int (nI r)] : List Value).toArray s 0 0 A) (F0 m 235 ls []) := by
              intro fz
              induction fz with
              | zero =>
                intro j gg hj hgg hfuel
                exact absurd hfuel (by omega)
              | succ fz ih =>
                intro j gg hj hgg hfuel H locs hP hD hS ls hl
                refine lv_iload_n hx hb dX8_putRow_235 rfl (lv_at hl 0 rfl) ?_
                refine lv_bipush (v := 6) hx hb dX8_putRow_236 (by decide) ?_
                refine lv_iload_n hx hb dX8_putRow_238 rfl (lv_at hl 2 rfl) ?_
                refine lv_imul hx hb dX8_putRow_239 ?_
                refine xtop (y := nI (6 * r)) (pk_mul _ _) ?_
                refine lv_aload_n hx hb dX8_putRow_240 rfl (lv_at hl 1 rfl) ?_
                refine xgt TX8_18 (v := .ref (ad 18)) hx hb hts hiX8 hown hev.1 hP 0 rfl (by decide) hf57 rfl dX8_putRow_241 ?_
                refine lv_iload_n hx hb dX8_putRow_244 rfl (lv_at hl 2 rfl) ?_
                refine xiald (k := (r)) hx hb hev.1 (xro hR0 hap hS) 10 1 rfl rfl (by omega) (by decide) dX8_putRow_245 ?_
                refine xtop (y := nI dn) (ha18) ?_
                refine lv_iadd hx hb dX8_putRow_246 ?_
                refine xtop (y := nI (6 * r + dn)) ((nI_add (6 * r) dn).trans (congrArg nI (by omega))) ?_
                refine lv_icmp_ge (tgt := 299) hx hb dX8_putRow_247 (by decide) (fun c24 => ?_) (fun c24 => ?_)
                · skip
                  have kc24 : (6 * r + dn) ≤ (6 * r + j) := (nI_leI (a := (6 * r + dn)) (b := (6 * r + j)) (by omega) (by omega)).mp c24
                  have hjd : j = dn := by omega
                  rw [hjd] at hP hD hgg
                  have hP : va_P E.1 vwCl [(mo, .inr (9, mOb ad th (nI kn) (nI rn) (nI (mn + oc + 15 + 6 * dn)) (nI dp))), (ad 29, aI E 256 gg)] H := hP
                  have hD : va_D A [(mo, .inr (9, mOb ad th (nI kn) (nI rn) (nI (mn + oc + 15 + 6 * dn)) (nI dp))), (ad 29, aI E 256 gg)] := hD
                  have hgd := hgg
                  refine lv_aload_n hx hb dX8_putRow_299 rfl (lv_at hl 1 rfl) ?_
                  refine lv_aload_n hx hb dX8_putRow_300 rfl (lv_at hl 1 rfl) ?_
                  refine xgt TX8_22 (v := .ref (ad 22)) hx hb hts hiX8 hown hev.1 hP 0 rfl (by decide) hf69 rfl dX8_putRow_301 ?_
                  refine lv_iload_n hx hb dX8_putRow_304 rfl (lv_at hl 2 rfl) ?_
                  refine xiald (k := (r)) hx hb hev.1 (xro hR0 hap hS) 14 1 rfl rfl (by omega) (by decide) dX8_putRow_305 ?_
                  refine xtop (y := nI pn) (ha22) ?_
                  refine lv_i2l (v := (nI pn).toInt64) hx hb dX8_putRow_306 rfl ?_
                  refine lv_iconst (v := 1) hx hb dX8_putRow_307 (by decide) ?_
                  have hP := hP.sub (ws' := [(mo, .inr (9, mOb ad th (nI kn) (nI rn) (nI (mn + oc + 15 + 6 * dn)) (nI dp))), (ad 29, aI E 256 gg)] ++ []) [0, 1] rfl
                  have hD := hD.sub (ws' := [(mo, .inr (9, mOb ad th (nI kn) (nI rn) (nI (mn + oc + 15 + 6 * dn)) (nI dp))), (ad 29, aI E 256 gg)] ++ []) [0, 1] (by decide) rfl
                  refine xcv (va_runV (As := [.long ((nI pn).toInt64), .int 1]) (rest := []) ⟨hx, hb, hml, hown, hts⟩ (kX8_put1 l E mo ad th kn rn (mn + oc + 15 + 6 * dn) dp gg ((nI pn).toInt64) (by first | assumption | omega) H.size) (cwV 2 hts gX8_putRow_X8_put rfl rfl rfl (by decide +kernel) ⟨Nat.le_of_ble_eq_true rfl, Nat.le_of_ble_eq_true rfl⟩) ⟨CP.blind, (va_recv hev.1 hP.left (ci := 9) (q0 := 0) rfl rfl), (xpre hev hz hA hP hD hS hR0 hap [] rfl)⟩ rfl rfl hl.1 rfl (lv_room (Nat.le_of_ble_eq_true rfl)) dX8_putRow_308 ⟨Nat.le_of_ble_eq_true rfl, Nat.le_of_ble_eq_true rfl⟩) hP hD hS hA (fun w26 H locs h27 hP hD hS => ?_)
                  obtain ⟨g28, rfl, h27⟩ := h27
                  try dsimp only at h27
                  have hP : va_P E.1 vwCl [(mo, .inr (9, mOb ad th (nI kn) (nI rn) (nI ((mn + oc + 15 + 6 * dn) + 1)) (nI dp))), (ad 29, aI E 256 g28)] H := hP
                  have hD : va_D A [(mo, .inr (9, mOb ad th (nI kn) (nI rn) (nI ((mn + oc + 15 + 6 * dn) + 1)) (nI dp))), (ad 29, aI E 256 g28)] := hD
                  refine lv_bipush (v := 6) hx hb dX8_putRow_311 (by decide) ?_
                  refine lv_iload_n hx hb dX8_putRow_313 rfl (lv_at hl 2 rfl) ?_
                  refine lv_imul hx hb dX8_putRow_314 ?_
                  refine xtop (y := nI (6 * r)) (pk_mul _ _) ?_
                  refine lv_istore_n (lv' := [(2, .int (nI (6 * r))), (0, .ref mo), (1, .int (nI r))]) hx hb dX8_putRow_315 rfl hl (by decide) rfl (fun ls hl => ?_)
                  have loop316 : ∀ (fz : Nat) (j2 : Nat) (g2 : Nat → Int32), (j2 ≤ pn) → (g2 = ap a29 mn ((((mH rl (a11 r) (a14 r) oc a13 r ++ uB1 (nI dn).toInt64) ++ m6 a19 a20 a21 (6 * r) dn) ++ uB1 (nI pn).toInt64) ++ m4 a23 (6 * r) j2)) → (pn - j2 < fz) → ∀ (H : Heap) (locs : List Loc), va_P E.1 vwCl [(mo, .inr (9, mOb ad th (nI kn) (nI rn) (nI (mn + oc + 15 + 6 * dn + 1 + 4 * j2)) (nI dp))), (ad 29, aI E 256 g2)] H → va_D A [(mo, .inr (9, mOb ad th (nI kn) (nI rn) (nI (mn + oc + 15 + 6 * dn + 1 + 4 * j2)) (nI dp))), (ad 29, aI E 256 g2)] → va_S A s.heap H locs → ∀ ls : Array Slot, lv_has ls 3 [(2, .int (nI (6 * r + j2))), (0, .ref mo), (1, .int (nI r))] → W p l e ({ frames := 1, cells := 0, slots := 0, locals := 24 } : Room) s m ([.ref mo, .int (nI r)] : List Value).toArray below meth c H locs 0 0 (MQ below (QV E (pX8_putRow E mo ad th kn rn mn dp a29 a14 a8 a9 a10 a11 a12 a13 a15 a16 a17 a18 a19 a20 a21 a22 a23 r rl oc tn dn pn) A) ([.ref mo, .int (nI r)] : List Value).toArray s 0 0 A) (F0 m 316 ls []) := by
                    intro fz
                    induction fz with
                    | zero =>
                      intro j2 g2 hj2 hg2 hfuel
                      exact absurd hfuel (by omega)
                    | succ fz ih =>
                      intro j2 g2 hj2 hg2 hfuel H locs hP hD hS ls hl
                      refine lv_iload_n hx hb dX8_putRow_316 rfl (lv_at hl 0 rfl) ?_
                      refine lv_bipush (v := 6) hx hb dX8_putRow_317 (by decide) ?_
                      refine lv_iload_n hx hb dX8_putRow_319 rfl (lv_at hl 2 rfl) ?_
                      refine lv_imul hx hb dX8_putRow_320 ?_
                      refine xtop (y := nI (6 * r)) (pk_mul _ _) ?_
                      refine lv_aload_n hx hb dX8_putRow_321 rfl (lv_at hl 1 rfl) ?_
                      refine xgt TX8_22 (v := .ref (ad 22)) hx hb hts hiX8 hown hev.1 hP 0 rfl (by decide) hf69 rfl dX8_putRow_322 ?_
                      refine lv_iload_n hx hb dX8_putRow_325 rfl (lv_at hl 2 rfl) ?_
                      refine xiald (k := (r)) hx hb hev.1 (xro hR0 hap hS) 14 1 rfl rfl (by omega) (by decide) dX8_putRow_326 ?_
                      refine xtop (y := nI pn) (ha22) ?_
                      refine lv_iadd hx hb dX8_putRow_327 ?_
                      refine xtop (y := nI (6 * r + pn)) ((nI_add (6 * r) pn).trans (congrArg nI (by omega))) ?_
                      refine lv_icmp_ge (tgt := 349) hx hb dX8_putRow_328 (by decide) (fun c29 => ?_) (fun c29 => ?_)
                      · skip
                        have kc29 : (6 * r + pn) ≤ (6 * r + j2) := (nI_leI (a := (6 * r + pn)) (b := (6 * r + j2)) (by omega) (by omega)).mp c29
                        have hje : j2 = pn := by omega
                        rw [hje] at hP hD hg2
                        have hP : va_P E.1 vwCl [(mo, .inr (9, mOb ad th (nI kn) (nI rn) (nI (mn + oc + 15 + 6 * dn + 1 + 4 * pn)) (nI dp))), (ad 29, aI E 256 g2)] H := hP
                        have hD : va_D A [(mo, .inr (9, mOb ad th (nI kn) (nI rn) (nI (mn + oc + 15 + 6 * dn + 1 + 4 * pn)) (nI dp))), (ad 29, aI E 256 g2)] := hD
                        have hlen : (mrowB rl (a11 r) (a14 r) oc a13 a8 a9 tn a16 a17 dn a19 a20 a21 pn a23 r).length = oc + 15 + 6 * dn + 1 + 4 * pn := by rw [mrowB, if_neg kc18, if_neg (by omega)]; simp only [List.length_append, List.length_cons, List.length_nil, m1_len, m4_len, m5_len, m6_len, mH_len, uB1, uB4, uB8]; try omega
                        rw [show (mn + oc + 15 + 6 * dn + 1 + 4 * pn : Nat) = mn + (mrowB rl (a11 r) (a14 r) oc a13 a8 a9 tn a16 a17 dn a19 a20 a21 pn a23 r).length from by rw [hlen]; omega] at hP hD
                        have hP : va_P E.1 vwCl [(mo, .inr (9, mOb ad th (nI kn) (nI rn) (nI (mn + (mrowB rl (a11 r) (a14 r) oc a13 a8 a9 tn a16 a17 dn a19 a20 a21 pn a23 r).length)) (nI dp))), (ad 29, aI E 256 g2)] H := hP
                        have hD : va_D A [(mo, .inr (9, mOb ad th (nI kn) (nI rn) (nI (mn + (mrowB rl (a11 r) (a14 r) oc a13 a8 a9 tn a16 a17 dn a19 a20 a21 pn a23 r).length)) (nI dp))), (ad 29, aI E 256 g2)] := hD
                        refine xrv hx hb hr hlocks hP hD hS ⟨g2, rfl, ?_⟩ dX8_putRow_349
                        rw [mrowB, if_neg kc18, if_neg (by omega)]
                        exact hg2.trans (by simp only [List.append_assoc])
                      · skip
                        have kc29 : ¬ (6 * r + pn) ≤ (6 * r + j2) := fun h9 => c29 ((nI_leI (a := (6 * r + pn)) (b := (6 * r + j2)) (by omega) (by omega)).mpr h9)
                        refine lv_aload_n hx hb dX8_putRow_331 rfl (lv_at hl 1 rfl) ?_
                        refine lv_aload_n hx hb dX8_putRow_332 rfl (lv_at hl 1 rfl) ?_
                        refine xgt TX8_23 (v := .ref (ad 23)) hx hb hts hiX8 hown hev.1 hP 0 rfl (by decide) hf72 rfl dX8_putRow_333 ?_
                        refine lv_iload_n hx hb dX8_putRow_336 rfl (lv_at hl 0 rfl) ?_
                        refine xiald (k := (6 * r + j2)) hx hb hev.1 (xro hR0 hap hS) 15 1 rfl rfl (by omega) (by decide) dX8_putRow_337 ?_
                        refine lv_i2l (v := (a23 (6 * r + j2)).toInt64) hx hb dX8_putRow_338 rfl ?_
                        refine lv_iconst (v := 4) hx hb dX8_putRow_339 (by decide) ?_
                        have hP := hP.sub (ws' := [(mo, .inr (9, mOb ad th (nI kn) (nI rn) (nI (mn + oc + 15 + 6 * dn + 1 + 4 * j2)) (nI dp))), (ad 29, aI E 256 g2)] ++ []) [0, 1] rfl
                        have hD := hD.sub (ws' := [(mo, .inr (9, mOb ad th (nI kn) (nI rn) (nI (mn + oc + 15 + 6 * dn + 1 + 4 * j2)) (nI dp))), (ad 29, aI E 256 g2)] ++ []) [0, 1] (by decide) rfl
                        refine xcv (va_runV (As := [.long ((a23 (6 * r + j2)).toInt64), .int 4]) (rest := []) ⟨hx, hb, hml, hown, hts⟩ (kX8_put4 l E mo ad th kn rn (mn + oc + 15 + 6 * dn + 1 + 4 * j2) dp g2 ((a23 (6 * r + j2)).toInt64) (by first | assumption | omega) H.size) (cwV 2 hts gX8_putRow_X8_put rfl rfl rfl (by decide +kernel) ⟨Nat.le_of_ble_eq_true rfl, Nat.le_of_ble_eq_true rfl⟩) ⟨CP.blind, (va_recv hev.1 hP.left (ci := 9) (q0 := 0) rfl rfl), (xpre hev hz hA hP hD hS hR0 hap [] rfl)⟩ rfl rfl hl.1 rfl (lv_room (Nat.le_of_ble_eq_true rfl)) dX8_putRow_340 ⟨Nat.le_of_ble_eq_true rfl, Nat.le_of_ble_eq_true rfl⟩) hP hD hS hA (fun w31 H locs h32 hP hD hS => ?_)
                        obtain ⟨g33, rfl, h32⟩ := h32
                        try dsimp only at h32
                        have hP : va_P E.1 vwCl [(mo, .inr (9, mOb ad th (nI kn) (nI rn) (nI ((mn + oc + 15 + 6 * dn + 1 + 4 * j2) + 4)) (nI dp))), (ad 29, aI E 256 g33)] H := hP
                        have hD : va_D A [(mo, .inr (9, mOb ad th (nI kn) (nI rn) (nI ((mn + oc + 15 + 6 * dn + 1 + 4 * j2) + 4)) (nI dp))), (ad 29, aI E 256 g33)] := hD
                        refine lv_iinc (v := nI (6 * r + j2 + 1)) (lv' := [(2, .int (nI (6 * r + j2 + 1))), (0, .ref mo), (1, .int (nI r))]) hx hb dX8_putRow_343 hl (k := 0) rfl ((nI_add (6 * r + j2) 1).trans (congrArg nI (by omega))) (by decide) rfl (fun ls hl => ?_)
                        refine lv_goto (tgt := 316) hx hb dX8_putRow_346 (by decide) ?_
                        rw [show ((mn + oc + 15 + 6 * dn + 1 + 4 * j2) + 4 : Nat) = mn + oc + 15 + 6 * dn + 1 + 4 * (j2 + 1) from by omega] at hP hD
                        have hP : va_P E.1 vwCl [(mo, .inr (9, mOb ad th (nI kn) (nI rn) (nI (mn + oc + 15 + 6 * dn + 1 + 4 * (j2 + 1))) (nI dp))), (ad 29, aI E 256 g33)] H := hP
                        have hD : va_D A [(mo, .inr (9, mOb ad th (nI kn) (nI rn) (nI (mn + oc + 15 + 6 * dn + 1 + 4 * (j2 + 1))) (nI dp))), (ad 29, aI E 256 g33)] := hD
                        rw [show (6 * r + j2 + 1 : Nat) = 6 * r + (j2 + 1) by omega] at hl
                        have hl : lv_has ls 3 [(2, .int (nI (6 * r + (j2 + 1)))), (0, .ref mo), (1, .int (nI r))] := hl
                        exact ih  (j2 + 1) g33 (by omega) ((ap_step (hg2) h32 (by simp only [List.length_append, List.length_cons, List.length_nil, m1_len, m4_len, m5_len, m6_len, mH_len, uB1, uB4, uB8]; try omega)).trans (by simp only [m4, List.append_assoc])) (by omega) _ _ hP hD hS ls (lv_sub hl [0, 1, 2] rfl)
                  exact loop316 (pn + 1) 0 g28 (by omega) ((ap_step (hgd) h27 (by simp only [List.length_append, List.length_cons, List.length_nil, m1_len, m4_len, m5_len, m6_len, mH_len, uB1, uB4, uB8]; try omega)).trans (by simp only [m4, List.append_nil])) (by omega) _ _ hP hD hS ls (lv_sub hl [0, 1, 2] rfl)
                · skip
                  have kc24 : ¬ (6 * r + dn) ≤ (6 * r + j) := fun h9 => c24 ((nI_leI (a := (6 * r + dn)) (b := (6 * r + j)) (by omega) (by omega)).mpr h9)
                  refine lv_aload_n hx hb dX8_putRow_250 rfl (lv_at hl 1 rfl) ?_
                  refine lv_aload_n hx hb dX8_putRow_251 rfl (lv_at hl 1 rfl) ?_
                  refine xgt TX8_19 (v := .ref (ad 19)) hx hb hts hiX8 hown hev.1 hP 0 rfl (by decide) hf60 rfl dX8_putRow_252 ?_
                  refine lv_iload_n hx hb dX8_putRow_255 rfl (lv_at hl 0 rfl) ?_
                  refine xiald (k := (6 * r + j)) hx hb hev.1 (xro hR0 hap hS) 11 1 rfl rfl (by omega) (by decide) dX8_putRow_256 ?_
                  refine lv_i2l (v := (a19 (6 * r + j)).toInt64) hx hb dX8_putRow_257 rfl ?_
                  refine lv_iconst (v := 4) hx hb dX8_putRow_258 (by decide) ?_
                  have hP := hP.sub (ws' := [(mo, .inr (9, mOb ad th (nI kn) (nI rn) (nI (mn + oc + 15 + 6 * j)) (nI dp))), (ad 29, aI E 256 gg)] ++ []) [0, 1] rfl
                  have hD := hD.sub (ws' := [(mo, .inr (9, mOb ad th (nI kn) (nI rn) (nI (mn + oc + 15 + 6 * j)) (nI dp))), (ad 29, aI E 256 gg)] ++ []) [0, 1] (by decide) rfl
                  refine xcv (va_runV (As := [.long ((a19 (6 * r + j)).toInt64), .int 4]) (rest := []) ⟨hx, hb, hml, hown, hts⟩ (kX8_put4 l E mo ad th kn rn (mn + oc + 15 + 6 * j) dp gg ((a19 (6 * r + j)).toInt64) (by first | assumption | omega) H.size) (cwV 2 hts gX8_putRow_X8_put rfl rfl rfl (by decide +kernel) ⟨Nat.le_of_ble_eq_true rfl, Nat.le_of_ble_eq_true rfl⟩) ⟨CP.blind, (va_recv hev.1 hP.left (ci := 9) (q0 := 0) rfl rfl), (xpre hev hz hA hP hD hS hR0 hap [] rfl)⟩ rfl rfl hl.1 rfl (lv_room (Nat.le_of_ble_eq_true rfl)) dX8_putRow_259 ⟨Nat.le_of_ble_eq_true rfl, Nat.le_of_ble_eq_true rfl⟩) hP hD hS hA (fun w35 H locs h36 hP hD hS => ?_)
                  obtain ⟨g37, rfl, h36⟩ := h36
                  try dsimp only at h36
                  have hP : va_P E.1 vwCl [(mo, .inr (9, mOb ad th (nI kn) (nI rn) (nI ((mn + oc + 15 + 6 * j) + 4)) (nI dp))), (ad 29, aI E 256 g37)] H := hP
                  have hD : va_D A [(mo, .inr (9, mOb ad th (nI kn) (nI rn) (nI ((mn + oc + 15 + 6 * j) + 4)) (nI dp))), (ad 29, aI E 256 g37)] := hD
                  refine lv_aload_n hx hb dX8_putRow_262 rfl (lv_at hl 1 rfl) ?_
                  refine lv_aload_n hx hb dX8_putRow_263 rfl (lv_at hl 1 rfl) ?_
                  refine xgt TX8_20 (v := .ref (ad 20)) hx hb hts hiX8 hown hev.1 hP 0 rfl (by decide) hf63 rfl dX8_putRow_264 ?_
                  refine lv_iload_n hx hb dX8_putRow_267 rfl (lv_at hl 0 rfl) ?_
                  refine xiald (k := (6 * r + j)) hx hb hev.1 (xro hR0 hap hS) 12 1 rfl rfl (by omega) (by decide) dX8_putRow_268 ?_
                  refine lv_i2l (v := (a20 (6 * r + j)).toInt64) hx hb dX8_putRow_269 rfl ?_
                  refine lv_iconst (v := 1) hx hb dX8_putRow_270 (by decide) ?_
                  have hP := hP.sub (ws' := [(mo, .inr (9, mOb ad th (nI kn) (nI rn) (nI ((mn + oc + 15 + 6 * j) + 4)) (nI dp))), (ad 29, aI E 256 g37)] ++ []) [0, 1] rfl
                  have hD := hD.sub (ws' := [(mo, .inr (9, mOb ad th (nI kn) (nI rn) (nI ((mn + oc + 15 + 6 * j) + 4)) (nI dp))), (ad 29, aI E 256 g37)] ++ []) [0, 1] (by decide) rfl
                  refine xcv (va_runV (As := [.long ((a20 (6 * r + j)).toInt64), .int 1]) (rest := []) ⟨hx, hb, hml, hown, hts⟩ (kX8_put1 l E mo ad th kn rn ((mn + oc + 15 + 6 * j) + 4) dp g37 ((a20 (6 * r + j)).toInt64) (by first | assumption | omega) H.size) (cwV 2 hts gX8_putRow_X8_put rfl rfl rfl (by decide +kernel) ⟨Nat.le_of_ble_eq_true rfl, Nat.le_of_ble_eq_true rfl⟩) ⟨CP.blind, (va_recv hev.1 hP.left (ci := 9) (q0 := 0) rfl rfl), (xpre hev hz hA hP hD hS hR0 hap [] rfl)⟩ rfl rfl hl.1 rfl (lv_room (Nat.le_of_ble_eq_true rfl)) dX8_putRow_271 ⟨Nat.le_of_ble_eq_true rfl, Nat.le_of_ble_eq_true rfl⟩) hP hD hS hA (fun w39 H locs h40 hP hD hS => ?_)
                  obtain ⟨g41, rfl, h40⟩ := h40
                  try dsimp only at h40
                  have hP : va_P E.1 vwCl [(mo, .inr (9, mOb ad th (nI kn) (nI rn) (nI (((mn + oc + 15 + 6 * j) + 4) + 1)) (nI dp))), (ad 29, aI E 256 g41)] H := hP
                  have hD : va_D A [(mo, .inr (9, mOb ad th (nI kn) (nI rn) (nI (((mn + oc + 15 + 6 * j) + 4) + 1)) (nI dp))), (ad 29, aI E 256 g41)] := hD
                  refine lv_aload_n hx hb dX8_putRow_274 rfl (lv_at hl 1 rfl) ?_
                  refine lv_aload_n hx hb dX8_putRow_275 rfl (lv_at hl 1 rfl) ?_
                  refine xgt TX8_21 (v := .ref (ad 21)) hx hb hts hiX8 hown hev.1 hP 0 rfl (by decide) hf66 rfl dX8_putRow_276 ?_
                  refine lv_iload_n hx hb dX8_putRow_279 rfl (lv_at hl 0 rfl) ?_
                  refine xzald (k := (6 * r + j)) hx hb hev.1 (xro hR0 hap hS) 13 3 rfl rfl (by omega) (by decide) dX8_putRow_280 ?_
                  refine lv_if_eq (tgt := 288) hx hb dX8_putRow_281 (by decide) (fun c42 => ?_) (fun c42 => ?_)
                  · skip
                    refine lv_lconst (v := 0) hx hb dX8_putRow_288 (by decide) ?_
                    refine xtopl (y := if a21 (6 * r + j) = 0 then 0 else 1) ((if_pos c42).symm) ?_
                    refine lv_iconst (v := 1) hx hb dX8_putRow_289 (by decide) ?_
                    have hP := hP.sub (ws' := [(mo, .inr (9, mOb ad th (nI kn) (nI rn) (nI (((mn + oc + 15 + 6 * j) + 4) + 1)) (nI dp))), (ad 29, aI E 256 g41)] ++ []) [0, 1] rfl
                    have hD := hD.sub (ws' := [(mo, .inr (9, mOb ad th (nI kn) (nI rn) (nI (((mn + oc + 15 + 6 * j) + 4) + 1)) (nI dp))), (ad 29, aI E 256 g41)] ++ []) [0, 1] (by decide) rfl
                    refine xcv (va_runV (As := [.long (if a21 (6 * r + j) = 0 then 0 else 1), .int 1]) (rest := []) ⟨hx, hb, hml, hown, hts⟩ (kX8_put1 l E mo ad th kn rn (((mn + oc + 15 + 6 * j) + 4) + 1) dp g41 (if a21 (6 * r + j) = 0 then 0 else 1) (by first | assumption | omega) H.size) (cwV 2 hts gX8_putRow_X8_put rfl rfl rfl (by decide +kernel) ⟨Nat.le_of_ble_eq_true rfl, Nat.le_of_ble_eq_true rfl⟩) ⟨CP.blind, (va_recv hev.1 hP.left (ci := 9) (q0 := 0) rfl rfl), (xpre hev hz hA hP hD hS hR0 hap [] rfl)⟩ rfl rfl hl.1 rfl (lv_room (Nat.le_of_ble_eq_true rfl)) dX8_putRow_290 ⟨Nat.le_of_ble_eq_true rfl, Nat.le_of_ble_eq_true rfl⟩) hP hD hS hA (fun w44 H locs h45 hP hD hS => ?_)
                    obtain ⟨g46, rfl, h45⟩ := h45
                    try dsimp only at h45
                    have hP : va_P E.1 vwCl [(mo, .inr (9, mOb ad th (nI kn) (nI rn) (nI ((((mn + oc + 15 + 6 * j) + 4) + 1) + 1)) (nI dp))), (ad 29, aI E 256 g46)] H := hP
                    have hD : va_D A [(mo, .inr (9, mOb ad th (nI kn) (nI rn) (nI ((((mn + oc + 15 + 6 * j) + 4) + 1) + 1)) (nI dp))), (ad 29, aI E 256 g46)] := hD
                    refine lv_iinc (v := nI (6 * r + j + 1)) (lv' := [(2, .int (nI (6 * r + j + 1))), (0, .ref mo), (1, .int (nI r))]) hx hb dX8_putRow_293 hl (k := 0) rfl ((nI_add (6 * r + j) 1).trans (congrArg nI (by omega))) (by decide) rfl (fun ls hl => ?_)
                    refine lv_goto (tgt := 235) hx hb dX8_putRow_296 (by decide) ?_
                    rw [show ((((mn + oc + 15 + 6 * j) + 4) + 1) + 1 : Nat) = mn + oc + 15 + 6 * (j + 1) from by omega] at hP hD
                    have hP : va_P E.1 vwCl [(mo, .inr (9, mOb ad th (nI kn) (nI rn) (nI (mn + oc + 15 + 6 * (j + 1))) (nI dp))), (ad 29, aI E 256 g46)] H := hP
                    have hD : va_D A [(mo, .inr (9, mOb ad th (nI kn) (nI rn) (nI (mn + oc + 15 + 6 * (j + 1))) (nI dp))), (ad 29, aI E 256 g46)] := hD
                    rw [show (6 * r + j + 1 : Nat) = 6 * r + (j + 1) by omega] at hl
                    have hl : lv_has ls 3 [(2, .int (nI (6 * r + (j + 1)))), (0, .ref mo), (1, .int (nI r))] := hl
                    exact ih  (j + 1) g46 (by omega) ((ap_step (ap_step (ap_step (hgg) h36 (by simp only [List.length_append, List.length_cons, List.length_nil, m1_len, m4_len, m5_len, m6_len, mH_len, uB1, uB4, uB8]; try omega)) h40 (by simp only [List.length_append, List.length_cons, List.length_nil, m1_len, m4_len, m5_len, m6_len, mH_len, uB1, uB4, uB8]; try omega)) h45 (by simp only [List.length_append, List.length_cons, List.length_nil, m1_len, m4_len, m5_len, m6_len, mH_len, uB1, uB4, uB8]; try omega)).trans (by simp only [m6, List.append_assoc])) (by omega) _ _ hP hD hS ls (lv_sub hl [0, 1, 2] rfl)
                  · skip
                    refine lv_lconst (v := 1) hx hb dX8_putRow_284 (by decide) ?_
                    refine lv_goto (tgt := 289) hx hb dX8_putRow_285 (by decide) ?_
                    refine xtopl (y := if a21 (6 * r + j) = 0 then 0 else 1) ((if_neg c42).symm) ?_
                    refine lv_iconst (v := 1) hx hb dX8_putRow_289 (by decide) ?_
                    have hP := hP.sub (ws' := [(mo, .inr (9, mOb ad th (nI kn) (nI rn) (nI (((mn + oc + 15 + 6 * j) + 4) + 1)) (nI dp))), (ad 29, aI E 256 g41)] ++ []) [0, 1] rfl
                    have hD := hD.sub (ws' := [(mo, .inr (9, mOb ad th (nI kn) (nI rn) (nI (((mn + oc + 15 + 6 * j) + 4) + 1)) (nI dp))), (ad 29, aI E 256 g41)] ++ []) [0, 1] (by decide) rfl
                    refine xcv (va_runV (As := [.long (if a21 (6 * r + j) = 0 then 0 else 1), .int 1]) (rest := []) ⟨hx, hb, hml, hown, hts⟩ (kX8_put1 l E mo ad th kn rn (((mn + oc + 15 + 6 * j) + 4) + 1) dp g41 (if a21 (6 * r + j) = 0 then 0 else 1) (by first | assumption | omega) H.size) (cwV 2 hts gX8_putRow_X8_put rfl rfl rfl (by decide +kernel) ⟨Nat.le_of_ble_eq_true rfl, Nat.le_of_ble_eq_true rfl⟩) ⟨CP.blind, (va_recv hev.1 hP.left (ci := 9) (q0 := 0) rfl rfl), (xpre hev hz hA hP hD hS hR0 hap [] rfl)⟩ rfl rfl hl.1 rfl (lv_room (Nat.le_of_ble_eq_true rfl)) dX8_putRow_290 ⟨Nat.le_of_ble_eq_true rfl, Nat.le_of_ble_eq_true rfl⟩) hP hD hS hA (fun w48 H locs h49 hP hD hS => ?_)
                    obtain ⟨g50, rfl, h49⟩ := h49
                    try dsimp only at h49
                    have hP : va_P E.1 vwCl [(mo, .inr (9, mOb ad th (nI kn) (nI rn) (nI ((((mn + oc + 15 + 6 * j) + 4) + 1) + 1)) (nI dp))), (ad 29, aI E 256 g50)] H := hP
                    have hD : va_D A [(mo, .inr (9, mOb ad th (nI kn) (nI rn) (nI ((((mn + oc + 15 + 6 * j) + 4) + 1) + 1)) (nI dp))), (ad 29, aI E 256 g50)] := hD
                    refine lv_iinc (v := nI (6 * r + j + 1)) (lv' := [(2, .int (nI (6 * r + j + 1))), (0, .ref mo), (1, .int (nI r))]) hx hb dX8_putRow_293 hl (k := 0) rfl ((nI_add (6 * r + j) 1).trans (congrArg nI (by omega))) (by decide) rfl (fun ls hl => ?_)
                    refine lv_goto (tgt := 235) hx hb dX8_putRow_296 (by decide) ?_
                    rw [show ((((mn + oc + 15 + 6 * j) + 4) + 1) + 1 : Nat) = mn + oc + 15 + 6 * (j + 1) from by omega] at hP hD
                    have hP : va_P E.1 vwCl [(mo, .inr (9, mOb ad th (nI kn) (nI rn) (nI (mn + oc + 15 + 6 * (j + 1))) (nI dp))), (ad 29, aI E 256 g50)] H := hP
                    have hD : va_D A [(mo, .inr (9, mOb ad th (nI kn) (nI rn) (nI (mn + oc + 15 + 6 * (j + 1))) (nI dp))), (ad 29, aI E 256 g50)] := hD
                    rw [show (6 * r + j + 1 : Nat) = 6 * r + (j + 1) by omega] at hl
                    have hl : lv_has ls 3 [(2, .int (nI (6 * r + (j + 1)))), (0, .ref mo), (1, .int (nI r))] := hl
                    exact ih  (j + 1) g50 (by omega) ((ap_step (ap_step (ap_step (hgg) h36 (by simp only [List.length_append, List.length_cons, List.length_nil, m1_len, m4_len, m5_len, m6_len, mH_len, uB1, uB4, uB8]; try omega)) h40 (by simp only [List.length_append, List.length_cons, List.length_nil, m1_len, m4_len, m5_len, m6_len, mH_len, uB1, uB4, uB8]; try omega)) h49 (by simp only [List.length_append, List.length_cons, List.length_nil, m1_len, m4_len, m5_len, m6_len, mH_len, uB1, uB4, uB8]; try omega)).trans (by simp only [m6, List.append_assoc])) (by omega) _ _ hP hD hS ls (lv_sub hl [0, 1, 2] rfl)
            exact loop235 (dn + 1) 0 g23 (by omega) ((ap_step (hg) h22 (by simp only [List.length_append, List.length_cons, List.length_nil, m1_len, m4_len, m5_len, m6_len, mH_len, uB1, uB4, uB8]; try omega)).trans (by simp only [m6, List.append_nil])) (by omega) _ _ hP hD hS ls (lv_sub hl [0, 1, 2] rfl)
          · skip
            have kc19 : ¬ 3 ≤ rl := fun h9 => c19 ((nI_leI (a := 3) (b := rl) (by omega) (by omega)).mpr h9)
            refine lv_aload_n hx hb dX8_putRow_153 rfl (lv_at hl 1 rfl) ?_
            refine lv_aload_n hx hb dX8_putRow_154 rfl (lv_at hl 1 rfl) ?_
            refine xgt TX8_15 (v := .ref (ad 15)) hx hb hts hiX8 hown hev.1 hP 0 rfl (by decide) hf48 rfl dX8_putRow_155 ?_
            refine lv_iload_n hx hb dX8_putRow_158 rfl (lv_at hl 2 rfl) ?_
            refine xiald (k := (r)) hx hb hev.1 (xro hR0 hap hS) 7 1 rfl rfl (by omega) (by decide) dX8_putRow_159 ?_
            refine xtop (y := nI tn) (ha15) ?_
            refine lv_i2l (v := (nI tn).toInt64) hx hb dX8_putRow_160 rfl ?_
            refine lv_iconst (v := 1) hx hb dX8_putRow_161 (by decide) ?_
            have hP := hP.sub (ws' := [(mo, .inr (9, mOb ad th (nI kn) (nI rn) (nI (mn + 14 + oc)) (nI dp))), (ad 29, aI E 256 g)] ++ []) [0, 1] rfl
            have hD := hD.sub (ws' := [(mo, .inr (9, mOb ad th (nI kn) (nI rn) (nI (mn + 14 + oc)) (nI dp))), (ad 29, aI E 256 g)] ++ []) [0, 1] (by decide) rfl
            refine xcv (va_runV (As := [.long ((nI tn).toInt64), .int 1]) (rest := []) ⟨hx, hb, hml, hown, hts⟩ (kX8_put1 l E mo ad th kn rn (mn + 14 + oc) dp g ((nI tn).toInt64) (by first | assumption | omega) H.size) (cwV 2 hts gX8_putRow_X8_put rfl rfl rfl (by decide +kernel) ⟨Nat.le_of_ble_eq_true rfl, Nat.le_of_ble_eq_true rfl⟩) ⟨CP.blind, (va_recv hev.1 hP.left (ci := 9) (q0 := 0) rfl rfl), (xpre hev hz hA hP hD hS hR0 hap [] rfl)⟩ rfl rfl hl.1 rfl (lv_room (Nat.le_of_ble_eq_true rfl)) dX8_putRow_162 ⟨Nat.le_of_ble_eq_true rfl, Nat.le_of_ble_eq_true rfl⟩) hP hD hS hA (fun w52 H locs h53 hP hD hS => ?_)
            obtain ⟨g54, rfl, h53⟩ := h53
            try dsimp only at h53
            try rw [show ((mn + 14 + oc) + 1 : Nat) = mn + oc + 15 by omega] at hP hD
            have hP : va_P E.1 vwCl [(mo, .inr (9, mOb ad th (nI kn) (nI rn) (nI (mn + oc + 15)) (nI dp))), (ad 29, aI E 256 g54)] H := hP
            have hD : va_D A [(mo, .inr (9, mOb ad th (nI kn) (nI rn) (nI (mn + oc + 15)) (nI dp))), (ad 29, aI E 256 g54)] := hD
            refine lv_bipush (v := 7) hx hb dX8_putRow_165 (by decide) ?_
            refine lv_iload_n hx hb dX8_putRow_167 rfl (lv_at hl 2 rfl) ?_
            refine lv_imul hx hb dX8_putRow_168 ?_
            refine xtop (y := nI (7 * r)) (pk_mul _ _) ?_
            refine lv_istore_n (lv' := [(2, .int (nI (7 * r))), (0, .ref mo), (1, .int (nI r))]) hx hb dX8_putRow_169 rfl hl (by decide) rfl (fun ls hl => ?_)
            have loop170 : ∀ (fz : Nat) (j : Nat) (gg : Nat → Int32), (j ≤ tn) → (gg = ap a29 mn ((mH rl (a11 r) (a14 r) oc a13 r ++ uB1 (nI tn).toInt64) ++ m5 a16 a17 (7 * r) j)) → (tn - j < fz) → ∀ (H : Heap) (locs : List Loc), va_P E.1 vwCl [(mo, .inr (9, mOb ad th (nI kn) (nI rn) (nI (mn + oc + 15 + 5 * j)) (nI dp))), (ad 29, aI E 256 gg)] H → va_D A [(mo, .inr (9, mOb ad th (nI kn) (nI rn) (nI (mn + oc + 15 + 5 * j)) (nI dp))), (ad 29, aI E 256 gg)] → va_S A s.heap H locs → ∀ ls : Array Slot, lv_has ls 3 [(2, .int (nI (7 * r + j))), (0, .ref mo), (1, .int (nI r))] → W p l e ({ frames := 1, cells := 0, slots := 0, locals := 24 } : Room) s m ([.ref mo, .int (nI r)] : List Value).toArray below meth c H locs 0 0 (MQ below (QV E (pX8_putRow E mo ad th kn rn mn dp a29 a14 a8 a9 a10 a11 a12 a13 a15 a16 a17 a18 a19 a20 a21 a22 a23 r rl oc tn dn pn) A) ([.ref mo, .int (nI r)] : List Value).toArray s 0 0 A) (F0 m 170 ls []) := by
              intro fz
              induction fz with
              | zero =>
                intro j gg hj hgg hfuel
                exact absurd hfuel (by omega)
              | succ fz ih =>
                intro j gg hj hgg hfuel H locs hP hD hS ls hl
                refine lv_iload_n hx hb dX8_putRow_170 rfl (lv_at hl 0 rfl) ?_
                refine lv_bipush (v := 7) hx hb dX8_putRow_171 (by decide) ?_
                refine lv_iload_n hx hb dX8_putRow_173 rfl (lv_at hl 2 rfl) ?_
                refine lv_imul hx hb dX8_putRow_174 ?_
                refine xtop (y := nI (7 * r)) (pk_mul _ _) ?_
                refine lv_aload_n hx hb dX8_putRow_175 rfl (lv_at hl 1 rfl) ?_
                refine xgt TX8_15 (v := .ref (ad 15)) hx hb hts hiX8 hown hev.1 hP 0 rfl (by decide) hf48 rfl dX8_putRow_176 ?_
                refine lv_iload_n hx hb dX8_putRow_179 rfl (lv_at hl 2 rfl) ?_
                refine xiald (k := (r)) hx hb hev.1 (xro hR0 hap hS) 7 1 rfl rfl (by omega) (by decide) dX8_putRow_180 ?_
                refine xtop (y := nI tn) (ha15) ?_
                refine lv_iadd hx hb dX8_putRow_181 ?_
                refine xtop (y := nI (7 * r + tn)) ((nI_add (7 * r) tn).trans (congrArg nI (by omega))) ?_
                refine lv_icmp_ge (tgt := 215) hx hb dX8_putRow_182 (by decide) (fun c55 => ?_) (fun c55 => ?_)
                · skip
                  have kc55 : (7 * r + tn) ≤ (7 * r + j) := (nI_leI (a := (7 * r + tn)) (b := (7 * r + j)) (by omega) (by omega)).mp c55
                  refine lv_goto (tgt := 349) hx hb dX8_putRow_215 (by decide) ?_
                  have hje : j = tn := by omega
                  rw [hje] at hP hD hgg
                  have hP : va_P E.1 vwCl [(mo, .inr (9, mOb ad th (nI kn) (nI rn) (nI (mn + oc + 15 + 5 * tn)) (nI dp))), (ad 29, aI E 256 gg)] H := hP
                  have hD : va_D A [(mo, .inr (9, mOb ad th (nI kn) (nI rn) (nI (mn + oc + 15 + 5 * tn)) (nI dp))), (ad 29, aI E 256 gg)] := hD
                  have hlen : (mrowB rl (a11 r) (a14 r) oc a13 a8 a9 tn a16 a17 dn a19 a20 a21 pn a23 r).length = oc + 15 + 5 * tn := by rw [mrowB, if_neg kc18, if_pos (by omega)]; simp only [List.length_append, List.length_cons, List.length_nil, m1_len, m4_len, m5_len, m6_len, mH_len, uB1, uB4, uB8]; try omega
                  rw [show (mn + oc + 15 + 5 * tn : Nat) = mn + (mrowB rl (a11 r) (a14 r) oc a13 a8 a9 tn a16 a17 dn a19 a20 a21 pn a23 r).length from by rw [hlen]; omega] at hP hD
                  have hP : va_P E.1 vwCl [(mo, .inr (9, mOb ad th (nI kn) (nI rn) (nI (mn + (mrowB rl (a11 r) (a14 r) oc a13 a8 a9 tn a16 a17 dn a19 a20 a21 pn a23 r).length)) (nI dp))), (ad 29, aI E 256 gg)] H := hP
                  have hD : va_D A [(mo, .inr (9, mOb ad th (nI kn) (nI rn) (nI (mn + (mrowB rl (a11 r) (a14 r) oc a13 a8 a9 tn a16 a17 dn a19 a20 a21 pn a23 r).length)) (nI dp))), (ad 29, aI E 256 gg)] := hD
                  refine xrv hx hb hr hlocks hP hD hS ⟨gg, rfl, ?_⟩ dX8_putRow_349
                  rw [mrowB, if_neg kc18, if_pos (by omega)]
                  exact hgg.trans (by simp only [List.append_assoc])
                · skip
                  have kc55 : ¬ (7 * r + tn) ≤ (7 * r + j) := fun h9 => c55 ((nI_leI (a := (7 * r + tn)) (b := (7 * r + j)) (by omega) (by omega)).mpr h9)
                  refine lv_aload_n hx hb dX8_putRow_185 rfl (lv_at hl 1 rfl) ?_
                  refine lv_aload_n hx hb dX8_putRow_186 rfl (lv_at hl 1 rfl) ?_
                  refine xgt TX8_16 (v := .ref (ad 16)) hx hb hts hiX8 hown hev.1 hP 0 rfl (by decide) hf51 rfl dX8_putRow_187 ?_
                  refine lv_iload_n hx hb dX8_putRow_190 rfl (lv_at hl 0 rfl) ?_
                  refine xiald (k := (7 * r + j)) hx hb hev.1 (xro hR0 hap hS) 8 1 rfl rfl (by omega) (by decide) dX8_putRow_191 ?_
                  refine lv_i2l (v := (a16 (7 * r + j)).toInt64) hx hb dX8_putRow_192 rfl ?_
                  refine lv_iconst (v := 1) hx hb dX8_putRow_193 (by decide) ?_
                  have hP := hP.sub (ws' := [(mo, .inr (9, mOb ad th (nI kn) (nI rn) (nI (mn + oc + 15 + 5 * j)) (nI dp))), (ad 29, aI E 256 gg)] ++ []) [0, 1] rfl
                  have hD := hD.sub (ws' := [(mo, .inr (9, mOb ad th (nI kn) (nI rn) (nI (mn + oc + 15 + 5 * j)) (nI dp))), (ad 29, aI E 256 gg)] ++ []) [0, 1] (by decide) rfl
                  refine xcv (va_runV (As := [.long ((a16 (7 * r + j)).toInt64), .int 1]) (rest := []) ⟨hx, hb, hml, hown, hts⟩ (kX8_put1 l E mo ad th kn rn (mn + oc + 15 + 5 * j) dp gg ((a16 (7 * r + j)).toInt64) (by first | assumption | omega) H.size) (cwV 2 hts gX8_putRow_X8_put rfl rfl rfl (by decide +kernel) ⟨Nat.le_of_ble_eq_true rfl, Nat.le_of_ble_eq_true rfl⟩) ⟨CP.blind, (va_recv hev.1 hP.left (ci := 9) (q0 := 0) rfl rfl), (xpre hev hz hA hP hD hS hR0 hap [] rfl)⟩ rfl rfl hl.1 rfl (lv_room (Nat.le_of_ble_eq_true rfl)) dX8_putRow_194 ⟨Nat.le_of_ble_eq_true rfl, Nat.le_of_ble_eq_true rfl⟩) hP hD hS hA (fun w57 H locs h58 hP hD hS => ?_)
                  obtain ⟨g59, rfl, h58⟩ := h58
                  try dsimp only at h58
                  have hP : va_P E.1 vwCl [(mo, .inr (9, mOb ad th (nI kn) (nI rn) (nI ((mn + oc + 15 + 5 * j) + 1)) (nI dp))), (ad 29, aI E 256 g59)] H := hP
                  have hD : va_D A [(mo, .inr (9, mOb ad th (nI kn) (nI rn) (nI ((mn + oc + 15 + 5 * j) + 1)) (nI dp))), (ad 29, aI E 256 g59)] := hD
                  refine lv_aload_n hx hb dX8_putRow_197 rfl (lv_at hl 1 rfl) ?_
                  refine lv_aload_n hx hb dX8_putRow_198 rfl (lv_at hl 1 rfl) ?_
                  refine xgt TX8_17 (v := .ref (ad 17)) hx hb hts hiX8 hown hev.1 hP 0 rfl (by decide) hf54 rfl dX8_putRow_199 ?_
                  refine lv_iload_n hx hb dX8_putRow_202 rfl (lv_at hl 0 rfl) ?_
                  refine xiald (k := (7 * r + j)) hx hb hev.1 (xro hR0 hap hS) 9 1 rfl rfl (by omega) (by decide) dX8_putRow_203 ?_
                  refine lv_i2l (v := (a17 (7 * r + j)).toInt64) hx hb dX8_putRow_204 rfl ?_
                  refine lv_iconst (v := 4) hx hb dX8_putRow_205 (by decide) ?_
                  have hP := hP.sub (ws' := [(mo, .inr (9, mOb ad th (nI kn) (nI rn) (nI ((mn + oc + 15 + 5 * j) + 1)) (nI dp))), (ad 29, aI E 256 g59)] ++ []) [0, 1] rfl
                  have hD := hD.sub (ws' := [(mo, .inr (9, mOb ad th (nI kn) (nI rn) (nI ((mn + oc + 15 + 5 * j) + 1)) (nI dp))), (ad 29, aI E 256 g59)] ++ []) [0, 1] (by decide) rfl
                  refine xcv (va_runV (As := [.long ((a17 (7 * r + j)).toInt64), .int 4]) (rest := []) ⟨hx, hb, hml, hown, hts⟩ (kX8_put4 l E mo ad th kn rn ((mn + oc + 15 + 5 * j) + 1) dp g59 ((a17 (7 * r + j)).toInt64) (by first | assumption | omega) H.size) (cwV 2 hts gX8_putRow_X8_put rfl rfl rfl (by decide +kernel) ⟨Nat.le_of_ble_eq_true rfl, Nat.le_of_ble_eq_true rfl⟩) ⟨CP.blind, (va_recv hev.1 hP.left (ci := 9) (q0 := 0) rfl rfl), (xpre hev hz hA hP hD hS hR0 hap [] rfl)⟩ rfl rfl hl.1 rfl (lv_room (Nat.le_of_ble_eq_true rfl)) dX8_putRow_206 ⟨Nat.le_of_ble_eq_true rfl, Nat.le_of_ble_eq_true rfl⟩) hP hD hS hA (fun w61 H locs h62 hP hD hS => ?_)
                  obtain ⟨g63, rfl, h62⟩ := h62
                  try dsimp only at h62
                  have hP : va_P E.1 vwCl [(mo, .inr (9, mOb ad th (nI kn) (nI rn) (nI (((mn + oc + 15 + 5 * j) + 1) + 4)) (nI dp))), (ad 29, aI E 256 g63)] H := hP
                  have hD : va_D A [(mo, .inr (9, mOb ad th (nI kn) (nI rn) (nI (((mn + oc + 15 + 5 * j) + 1) + 4)) (nI dp))), (ad 29, aI E 256 g63)] := hD
                  refine lv_iinc (v := nI (7 * r + j + 1)) (lv' := [(2, .int (nI (7 * r + j + 1))), (0, .ref mo), (1, .int (nI r))]) hx hb dX8_putRow_209 hl (k := 0) rfl ((nI_add (7 * r + j) 1).trans (congrArg nI (by omega))) (by decide) rfl (fun ls hl => ?_)
                  refine lv_goto (tgt := 170) hx hb dX8_putRow_212 (by decide) ?_
                  rw [show (((mn + oc + 15 + 5 * j) + 1) + 4 : Nat) = mn + oc + 15 + 5 * (j + 1) from by omega] at hP hD
                  have hP : va_P E.1 vwCl [(mo, .inr (9, mOb ad th (nI kn) (nI rn) (nI (mn + oc + 15 + 5 * (j + 1))) (nI dp))), (ad 29, aI E 256 g63)] H := hP
                  have hD : va_D A [(mo, .inr (9, mOb ad th (nI kn) (nI rn) (nI (mn + oc + 15 + 5 * (j + 1))) (nI dp))), (ad 29, aI E 256 g63)] := hD
                  rw [show (7 * r + j + 1 : Nat) = 7 * r + (j + 1) by omega] at hl
                  have hl : lv_has ls 3 [(2, .int (nI (7 * r + (j + 1)))), (0, .ref mo), (1, .int (nI r))] := hl
                  exact ih  (j + 1) g63 (by omega) ((ap_step (ap_step (hgg) h58 (by simp only [List.length_append, List.length_cons, List.length_nil, m1_len, m4_len, m5_len, m6_len, mH_len, uB1, uB4, uB8]; try omega)) h62 (by simp only [List.length_append, List.length_cons, List.length_nil, m1_len, m4_len, m5_len, m6_len, mH_len, uB1, uB4, uB8]; try omega)).trans (by simp only [m5, List.append_assoc])) (by omega) _ _ hP hD hS ls (lv_sub hl [0, 1, 2] rfl)
            exact loop170 (tn + 1) 0 g54 (by omega) ((ap_step (hg) h53 (by simp only [List.length_append, List.length_cons, List.length_nil, m1_len, m4_len, m5_len, m6_len, mH_len, uB1, uB4, uB8]; try omega)).trans (by simp only [m5, List.append_nil])) (by omega) _ _ hP hD hS ls (lv_sub hl [0, 1, 2] rfl)
        · skip
          have kc18 : rl = 0 := (nI_eq (a := rl) (b := 0) (by omega) (by omega)).mp c18
          refine lv_iconst (v := 0) hx hb dX8_putRow_92 (by decide) ?_
          refine lv_istore_n (lv' := [(2, .int 0), (0, .ref mo), (1, .int (nI r))]) hx hb dX8_putRow_93 rfl hl (by decide) rfl (fun ls hl => ?_)
          have loop94 : ∀ (fz : Nat) (j : Nat) (gg : Nat → Int32), (j ≤ 10) → (gg = ap a29 mn (mH rl (a11 r) (a14 r) oc a13 r ++ m5 a8 a9 (10 * r) j)) → (10 - j < fz) → ∀ (H : Heap) (locs : List Loc), va_P E.1 vwCl [(mo, .inr (9, mOb ad th (nI kn) (nI rn) (nI (mn + 14 + oc + 5 * j)) (nI dp))), (ad 29, aI E 256 gg)] H → va_D A [(mo, .inr (9, mOb ad th (nI kn) (nI rn) (nI (mn + 14 + oc + 5 * j)) (nI dp))), (ad 29, aI E 256 gg)] → va_S A s.heap H locs → ∀ ls : Array Slot, lv_has ls 3 [(2, .int (nI (j))), (0, .ref mo), (1, .int (nI r))] → W p l e ({ frames := 1, cells := 0, slots := 0, locals := 24 } : Room) s m ([.ref mo, .int (nI r)] : List Value).toArray below meth c H locs 0 0 (MQ below (QV E (pX8_putRow E mo ad th kn rn mn dp a29 a14 a8 a9 a10 a11 a12 a13 a15 a16 a17 a18 a19 a20 a21 a22 a23 r rl oc tn dn pn) A) ([.ref mo, .int (nI r)] : List Value).toArray s 0 0 A) (F0 m 94 ls []) := by
            intro fz
            induction fz with
            | zero =>
              intro j gg hj hgg hfuel
              exact absurd hfuel (by omega)
            | succ fz ih =>
              intro j gg hj hgg hfuel H locs hP hD hS ls hl
              refine lv_iload_n hx hb dX8_putRow_94 rfl (lv_at hl 0 rfl) ?_
              refine lv_bipush (v := 10) hx hb dX8_putRow_95 (by decide) ?_
              refine lv_icmp_ge (tgt := 140) hx hb dX8_putRow_97 (by decide) (fun c64 => ?_) (fun c64 => ?_)
              · skip
                have kc64 : 10 ≤ j := (nI_leI (a := 10) (b := j) (by omega) (by omega)).mp c64
                refine lv_goto (tgt := 349) hx hb dX8_putRow_140 (by decide) ?_
                have hje : j = 10 := by omega
                rw [hje] at hP hD hgg
                have hP : va_P E.1 vwCl [(mo, .inr (9, mOb ad th (nI kn) (nI rn) (nI (mn + 14 + oc + 5 * 10)) (nI dp))), (ad 29, aI E 256 gg)] H := hP
                have hD : va_D A [(mo, .inr (9, mOb ad th (nI kn) (nI rn) (nI (mn + 14 + oc + 5 * 10)) (nI dp))), (ad 29, aI E 256 gg)] := hD
                have hlen : (mrowB rl (a11 r) (a14 r) oc a13 a8 a9 tn a16 a17 dn a19 a20 a21 pn a23 r).length = 14 + oc + 5 * 10 := by rw [mrowB, if_pos kc18]; simp only [List.length_append, List.length_cons, List.length_nil, m1_len, m4_len, m5_len, m6_len, mH_len, uB1, uB4, uB8]; try omega
                rw [show (mn + 14 + oc + 5 * 10 : Nat) = mn + (mrowB rl (a11 r) (a14 r) oc a13 a8 a9 tn a16 a17 dn a19 a20 a21 pn a23 r).length from by rw [hlen]; omega] at hP hD
                have hP : va_P E.1 vwCl [(mo, .inr (9, mOb ad th (nI kn) (nI rn) (nI (mn + (mrowB rl (a11 r) (a14 r) oc a13 a8 a9 tn a16 a17 dn a19 a20 a21 pn a23 r).length)) (nI dp))), (ad 29, aI E 256 gg)] H := hP
                have hD : va_D A [(mo, .inr (9, mOb ad th (nI kn) (nI rn) (nI (mn + (mrowB rl (a11 r) (a14 r) oc a13 a8 a9 tn a16 a17 dn a19 a20 a21 pn a23 r).length)) (nI dp))), (ad 29, aI E 256 gg)] := hD
                refine xrv hx hb hr hlocks hP hD hS ⟨gg, rfl, ?_⟩ dX8_putRow_349
                rw [mrowB, if_pos kc18]
                exact hgg.trans (by simp only [List.append_assoc])
              · skip
                have kc64 : ¬ 10 ≤ j := fun h9 => c64 ((nI_leI (a := 10) (b := j) (by omega) (by omega)).mpr h9)
                refine lv_aload_n hx hb dX8_putRow_100 rfl (lv_at hl 1 rfl) ?_
                refine lv_aload_n hx hb dX8_putRow_101 rfl (lv_at hl 1 rfl) ?_
                refine xgt TX8_8 (v := .ref (ad 8)) hx hb hts hiX8 hown hev.1 hP 0 rfl (by decide) hf27 rfl dX8_putRow_102 ?_
                refine lv_bipush (v := 10) hx hb dX8_putRow_105 (by decide) ?_
                refine lv_iload_n hx hb dX8_putRow_107 rfl (lv_at hl 2 rfl) ?_
                refine lv_imul hx hb dX8_putRow_108 ?_
                refine xtop (y := nI (10 * r)) (pk_mul _ _) ?_
                refine lv_iload_n hx hb dX8_putRow_109 rfl (lv_at hl 0 rfl) ?_
                refine lv_iadd hx hb dX8_putRow_110 ?_
                refine xtop (y := nI (10 * r + j)) ((nI_add (10 * r) j).trans (congrArg nI (by omega))) ?_
                refine xiald (k := (10 * r + j)) hx hb hev.1 (xro hR0 hap hS) 1 1 rfl rfl (by omega) (by decide) dX8_putRow_111 ?_
                refine lv_i2l (v := (a8 (10 * r + j)).toInt64) hx hb dX8_putRow_112 rfl ?_
                refine lv_iconst (v := 1) hx hb dX8_putRow_113 (by decide) ?_
                have hP := hP.sub (ws' := [(mo, .inr (9, mOb ad th (nI kn) (nI rn) (nI (mn + 14 + oc + 5 * j)) (nI dp))), (ad 29, aI E 256 gg)] ++ []) [0, 1] rfl
                have hD := hD.sub (ws' := [(mo, .inr (9, mOb ad th (nI kn) (nI rn) (nI (mn + 14 + oc + 5 * j)) (nI dp))), (ad 29, aI E 256 gg)] ++ []) [0, 1] (by decide) rfl
                refine xcv (va_runV (As := [.long ((a8 (10 * r + j)).toInt64), .int 1]) (rest := []) ⟨hx, hb, hml, hown, hts⟩ (kX8_put1 l E mo ad th kn rn (mn + 14 + oc + 5 * j) dp gg ((a8 (10 * r + j)).toInt64) (by first | assumption | omega) H.size) (cwV 2 hts gX8_putRow_X8_put rfl rfl rfl (by decide +kernel) ⟨Nat.le_of_ble_eq_true rfl, Nat.le_of_ble_eq_true rfl⟩) ⟨CP.blind, (va_recv hev.1 hP.left (ci := 9) (q0 := 0) rfl rfl), (xpre hev hz hA hP hD hS hR0 hap [] rfl)⟩ rfl rfl hl.1 rfl (lv_room (Nat.le_of_ble_eq_true rfl)) dX8_putRow_114 ⟨Nat.le_of_ble_eq_true rfl, Nat.le_of_ble_eq_true rfl⟩) hP hD hS hA (fun w66 H locs h67 hP hD hS => ?_)
                obtain ⟨g68, rfl, h67⟩ := h67
                try dsimp only at h67
                have hP : va_P E.1 vwCl [(mo, .inr (9, mOb ad th (nI kn) (nI rn) (nI ((mn + 14 + oc + 5 * j) + 1)) (nI dp))), (ad 29, aI E 256 g68)] H := hP
                have hD : va_D A [(mo, .inr (9, mOb ad th (nI kn) (nI rn) (nI ((mn + 14 + oc + 5 * j) + 1)) (nI dp))), (ad 29, aI E 256 g68)] := hD
                refine lv_aload_n hx hb dX8_putRow_117 rfl (lv_at hl 1 rfl) ?_
                refine lv_aload_n hx hb dX8_putRow_118 rfl (lv_at hl 1 rfl) ?_
                refine xgt TX8_9 (v := .ref (ad 9)) hx hb hts hiX8 hown hev.1 hP 0 rfl (by decide) hf30 rfl dX8_putRow_119 ?_
                refine lv_bipush (v := 10) hx hb dX8_putRow_122 (by decide) ?_
                refine lv_iload_n hx hb dX8_putRow_124 rfl (lv_at hl 2 rfl) ?_
                refine lv_imul hx hb dX8_putRow_125 ?_
                refine xtop (y := nI (10 * r)) (pk_mul _ _) ?_
                refine lv_iload_n hx hb dX8_putRow_126 rfl (lv_at hl 0 rfl) ?_
                refine lv_iadd hx hb dX8_putRow_127 ?_
                refine xtop (y := nI (10 * r + j)) ((nI_add (10 * r) j).trans (congrArg nI (by omega))) ?_
                refine xiald (k := (10 * r + j)) hx hb hev.1 (xro hR0 hap hS) 2 1 rfl rfl (by omega) (by decide) dX8_putRow_128 ?_
                refine lv_i2l (v := (a9 (10 * r + j)).toInt64) hx hb dX8_putRow_129 rfl ?_
                refine lv_iconst (v := 4) hx hb dX8_putRow_130 (by decide) ?_
                have hP := hP.sub (ws' := [(mo, .inr (9, mOb ad th (nI kn) (nI rn) (nI ((mn + 14 + oc + 5 * j) + 1)) (nI dp))), (ad 29, aI E 256 g68)] ++ []) [0, 1] rfl
                have hD := hD.sub (ws' := [(mo, .inr (9, mOb ad th (nI kn) (nI rn) (nI ((mn + 14 + oc + 5 * j) + 1)) (nI dp))), (ad 29, aI E 256 g68)] ++ []) [0, 1] (by decide) rfl
                refine xcv (va_runV (As := [.long ((a9 (10 * r + j)).toInt64), .int 4]) (rest := []) ⟨hx, hb, hml, hown, hts⟩ (kX8_put4 l E mo ad th kn rn ((mn + 14 + oc + 5 * j) + 1) dp g68 ((a9 (10 * r + j)).toInt64) (by first | assumption | omega) H.size) (cwV 2 hts gX8_putRow_X8_put rfl rfl rfl (by decide +kernel) ⟨Nat.le_of_ble_eq_true rfl, Nat.le_of_ble_eq_true rfl⟩) ⟨CP.blind, (va_recv hev.1 hP.left (ci := 9) (q0 := 0) rfl rfl), (xpre hev hz hA hP hD hS hR0 hap [] rfl)⟩ rfl rfl hl.1 rfl (lv_room (Nat.le_of_ble_eq_true rfl)) dX8_putRow_131 ⟨Nat.le_of_ble_eq_true rfl, Nat.le_of_ble_eq_true rfl⟩) hP hD hS hA (fun w70 H locs h71 hP hD hS => ?_)
                obtain ⟨g72, rfl, h71⟩ := h71
                try dsimp only at h71
                have hP : va_P E.1 vwCl [(mo, .inr (9, mOb ad th (nI kn) (nI rn) (nI (((mn + 14 + oc + 5 * j) + 1) + 4)) (nI dp))), (ad 29, aI E 256 g72)] H := hP
                have hD : va_D A [(mo, .inr (9, mOb ad th (nI kn) (nI rn) (nI (((mn + 14 + oc + 5 * j) + 1) + 4)) (nI dp))), (ad 29, aI E 256 g72)] := hD
                refine lv_iinc (v := nI (j + 1)) (lv' := [(2, .int (nI (j + 1))), (0, .ref mo), (1, .int (nI r))]) hx hb dX8_putRow_134 hl (k := 0) rfl ((nI_add j 1).trans (congrArg nI (by omega))) (by decide) rfl (fun ls hl => ?_)
                refine lv_goto (tgt := 94) hx hb dX8_putRow_137 (by decide) ?_
                rw [show (((mn + 14 + oc + 5 * j) + 1) + 4 : Nat) = mn + 14 + oc + 5 * (j + 1) from by omega] at hP hD
                have hP : va_P E.1 vwCl [(mo, .inr (9, mOb ad th (nI kn) (nI rn) (nI (mn + 14 + oc + 5 * (j + 1))) (nI dp))), (ad 29, aI E 256 g72)] H := hP
                have hD : va_D A [(mo, .inr (9, mOb ad th (nI kn) (nI rn) (nI (mn + 14 + oc + 5 * (j + 1))) (nI dp))), (ad 29, aI E 256 g72)] := hD
                exact ih  (j + 1) g72 (by omega) ((ap_step (ap_step (hgg) h67 (by simp only [List.length_append, List.length_cons, List.length_nil, m1_len, m4_len, m5_len, m6_len, mH_len, uB1, uB4, uB8]; try omega)) h71 (by simp only [List.length_append, List.length_cons, List.length_nil, m1_len, m4_len, m5_len, m6_len, mH_len, uB1, uB4, uB8]; try omega)).trans (by simp only [m5, List.append_assoc])) (by omega) _ _ hP hD hS ls (lv_sub hl [0, 1, 2] rfl)
          exact loop94 (10 + 1) 0 g (by omega) ((hg).trans (by simp only [m5, List.append_nil])) (by omega) _ _ hP hD hS ls (lv_sub hl [0, 1, 2] rfl)
      · skip
        have kc17 : ¬ oc ≤ i := fun h9 => c17 ((nI_leI (a := oc) (b := i) (by omega) (by omega)).mpr h9)
        refine lv_aload_n hx hb dX8_putRow_60 rfl (lv_at hl 1 rfl) ?_
        refine lv_aload_n hx hb dX8_putRow_61 rfl (lv_at hl 1 rfl) ?_
        refine xgt TX8_13 (v := .ref (ad 13)) hx hb hts hiX8 hown hev.1 hP 0 rfl (by decide) hf42 rfl dX8_putRow_62 ?_
        refine lv_bipush (v := 16) hx hb dX8_putRow_65 (by decide) ?_
        refine lv_iload_n hx hb dX8_putRow_67 rfl (lv_at hl 2 rfl) ?_
        refine lv_imul hx hb dX8_putRow_68 ?_
        refine xtop (y := nI (16 * r)) (pk_mul _ _) ?_
        refine lv_iload_n hx hb dX8_putRow_69 rfl (lv_at hl 0 rfl) ?_
        refine lv_iadd hx hb dX8_putRow_70 ?_
        refine xtop (y := nI (16 * r + i)) ((nI_add (16 * r) i).trans (congrArg nI (by omega))) ?_
        refine xiald (k := (16 * r + i)) hx hb hev.1 (xro hR0 hap hS) 6 1 rfl rfl (by omega) (by decide) dX8_putRow_71 ?_
        refine lv_i2l (v := (a13 (16 * r + i)).toInt64) hx hb dX8_putRow_72 rfl ?_
        refine lv_iconst (v := 1) hx hb dX8_putRow_73 (by decide) ?_
        have hP := hP.sub (ws' := [(mo, .inr (9, mOb ad th (nI kn) (nI rn) (nI (mn + 14 + i)) (nI dp))), (ad 29, aI E 256 g)] ++ []) [0, 1] rfl
        have hD := hD.sub (ws' := [(mo, .inr (9, mOb ad th (nI kn) (nI rn) (nI (mn + 14 + i)) (nI dp))), (ad 29, aI E 256 g)] ++ []) [0, 1] (by decide) rfl
        refine xcv (va_runV (As := [.long ((a13 (16 * r + i)).toInt64), .int 1]) (rest := []) ⟨hx, hb, hml, hown, hts⟩ (kX8_put1 l E mo ad th kn rn (mn + 14 + i) dp g ((a13 (16 * r + i)).toInt64) (by first | assumption | omega) H.size) (cwV 2 hts gX8_putRow_X8_put rfl rfl rfl (by decide +kernel) ⟨Nat.le_of_ble_eq_true rfl, Nat.le_of_ble_eq_true rfl⟩) ⟨CP.blind, (va_recv hev.1 hP.left (ci := 9) (q0 := 0) rfl rfl), (xpre hev hz hA hP hD hS hR0 hap [] rfl)⟩ rfl rfl hl.1 rfl (lv_room (Nat.le_of_ble_eq_true rfl)) dX8_putRow_74 ⟨Nat.le_of_ble_eq_true rfl, Nat.le_of_ble_eq_true rfl⟩) hP hD hS hA (fun w74 H locs h75 hP hD hS => ?_)
        obtain ⟨g76, rfl, h75⟩ := h75
        try dsimp only at h75
        try rw [show ((mn + 14 + i) + 1 : Nat) = mn + i + 15 by omega] at hP hD
        have hP : va_P E.1 vwCl [(mo, .inr (9, mOb ad th (nI kn) (nI rn) (nI (mn + i + 15)) (nI dp))), (ad 29, aI E 256 g76)] H := hP
        have hD : va_D A [(mo, .inr (9, mOb ad th (nI kn) (nI rn) (nI (mn + i + 15)) (nI dp))), (ad 29, aI E 256 g76)] := hD
        refine lv_iinc (v := nI (i + 1)) (lv' := [(2, .int (nI (i + 1))), (0, .ref mo), (1, .int (nI r))]) hx hb dX8_putRow_77 hl (k := 0) rfl ((nI_add i 1).trans (congrArg nI (by omega))) (by decide) rfl (fun ls hl => ?_)
        refine lv_goto (tgt := 50) hx hb dX8_putRow_80 (by decide) ?_
        rw [show (mn + i + 15 : Nat) = mn + 14 + (i + 1) from by omega] at hP hD
        have hP : va_P E.1 vwCl [(mo, .inr (9, mOb ad th (nI kn) (nI rn) (nI (mn + 14 + (i + 1))) (nI dp))), (ad 29, aI E 256 g76)] H := hP
        have hD : va_D A [(mo, .inr (9, mOb ad th (nI kn) (nI rn) (nI (mn + 14 + (i + 1))) (nI dp))), (ad 29, aI E 256 g76)] := hD
        exact ih  (i + 1) g76 (by omega) ((ap_step (hg) h75 (by simp only [List.length_append, List.length_cons, List.length_nil, m1_len, m4_len, m5_len, m6_len, mH_len, uB1, uB4, uB8]; try omega)).trans (by simp only [m1, List.append_assoc])) (by omega) _ _ hP hD hS ls (lv_sub hl [0, 1, 2] rfl)
  exact loop50 (oc + 1) 0 g16 (by omega) ((ap_step (ap_step (ap_step ((show g4 = ap a29 mn (uB1 (nI rl).toInt64) from h3)) h7 (by simp only [List.length_append, List.length_cons, List.length_nil, m1_len, m4_len, m5_len, m6_len, mH_len, uB1, uB4, uB8]; try omega)) h11 (by simp only [List.length_append, List.length_cons, List.length_nil, m1_len, m4_len, m5_len, m6_len, mH_len, uB1, uB4, uB8]; try omega)) h15 (by simp only [List.length_append, List.length_cons, List.length_nil, m1_len, m4_len, m5_len, m6_len, mH_len, uB1, uB4, uB8]; try omega)).trans (by simp only [m1, List.append_nil])) (by omega) _ _ hP hD hS ls (lv_sub hl [0, 1, 2] rfl)
