abbrev pX8_isKey (E : xE) (mo : Nat) (ad : Nat → Nat) (th : Int32) (kn : Nat) (rn : Nat) (mn : Nat) (dp : Nat) (y : Int32) (r : Int32) (w : va_W) : Prop := w = [] ∧ r = b1 (isN y kn) ∧ (True)
set_option maxHeartbeats 4000000 in
set_option maxRecDepth 100000 in
theorem kX8_isKey (l : Launch) (E : xE) (mo : Nat) (ad : Nat → Nat) (th : Int32) (kn : Nat) (rn : Nat) (mn : Nat) (dp : Nat) (y : Int32) (hkn : kn ≤ 20) : KT l yX8_isKey wsX8_isKey 0 0 0 0 E [] [(mo, .inr (9, mOb ad th (nI kn) (nI rn) (nI mn) (nI dp)))] [.ref mo, .int y] (QI E (pX8_isKey E mo ad th kn rn mn dp y)) := by
  refine KT.start (cc := cX8_isKey) (maxL := 2) (ret := (some .boolean)) (by decide) rfl (Nat.le_of_ble_eq_true rfl) ?_
  intro p e s m below meth c A H hx hb hr hlocks hml hts hown hin hP hR0 hD hap hev hz hA hS ls hl
  have hl : lv_has ls 2 [(0, .ref mo), (1, .int y)] := hl
  have hiX8 : ∀ w ∈ wsX80, w ∈ wsX8_isKey := fun _ h => List.mem_cons_of_mem _ (List.mem_append_right _ h)
  have hf196 := hts (.fieldLink RX8 196 "SignQuorumModel" "keys" "I") (by decide +kernel)
  refine lv_iload_n hx hb dX8_isKey_0 rfl (lv_at hl 1 rfl) ?_
  refine lv_if_lt (tgt := 16) hx hb dX8_isKey_1 (by decide) (fun c1 => ?_) (fun c1 => ?_)
  · skip
    refine lv_iconst (v := 0) hx hb dX8_isKey_16 (by decide) ?_
    refine xrz hx hb hr hlocks (by first | rfl | decide | exact b1_narrow _) hP hD hS ⟨rfl, ?_, ?_⟩ dX8_isKey_17
    · exact (b1_f (isN_no1 c1 (by omega))).symm
    · trivial
  · skip
    refine lv_iload_n hx hb dX8_isKey_4 rfl (lv_at hl 1 rfl) ?_
    refine lv_aload_n hx hb dX8_isKey_5 rfl (lv_at hl 0 rfl) ?_
    refine xgt TX8_1 (v := .int (nI kn)) hx hb hts hiX8 hown hev.1 (xro hR0 hap hS) 0 rfl (by decide) hf196 rfl dX8_isKey_6 ?_
    refine lv_icmp_ge (tgt := 16) hx hb dX8_isKey_9 (by decide) (fun c2 => ?_) (fun c2 => ?_)
    · skip
      refine lv_iconst (v := 0) hx hb dX8_isKey_16 (by decide) ?_
      refine xrz hx hb hr hlocks (by first | rfl | decide | exact b1_narrow _) hP hD hS ⟨rfl, ?_, ?_⟩ dX8_isKey_17
      · exact (b1_f (isN_no2 (n := kn) c2 (by omega))).symm
      · trivial
    · skip
      refine lv_iconst (v := 1) hx hb dX8_isKey_12 (by decide) ?_
      refine lv_goto (tgt := 17) hx hb dX8_isKey_13 (by decide) ?_
      refine xrz hx hb hr hlocks (by first | rfl | decide | exact b1_narrow _) hP hD hS ⟨rfl, ?_, ?_⟩ dX8_isKey_17
      · exact (b1_t (in_t kn c1 c2 (by omega))).symm
      · trivial

abbrev pX8_isRow (E : xE) (mo : Nat) (ad : Nat → Nat) (th : Int32) (kn : Nat) (rn : Nat) (mn : Nat) (dp : Nat) (y : Int32) (r : Int32) (w : va_W) : Prop := w = [] ∧ r = b1 (isN y rn) ∧ (True)
set_option maxHeartbeats 4000000 in
set_option maxRecDepth 100000 in
theorem kX8_isRow (l : Launch) (E : xE) (mo : Nat) (ad : Nat → Nat) (th : Int32) (kn : Nat) (rn : Nat) (mn : Nat) (dp : Nat) (y : Int32) (hrn : rn ≤ 24) : KT l yX8_isRow wsX8_isRow 0 0 0 0 E [] [(mo, .inr (9, mOb ad th (nI kn) (nI rn) (nI mn) (nI dp)))] [.ref mo, .int y] (QI E (pX8_isRow E mo ad th kn rn mn dp y)) := by
  refine KT.start (cc := cX8_isRow) (maxL := 2) (ret := (some .boolean)) (by decide) rfl (Nat.le_of_ble_eq_true rfl) ?_
  intro p e s m below meth c A H hx hb hr hlocks hml hts hown hin hP hR0 hD hap hev hz hA hS ls hl
  have hl : lv_has ls 2 [(0, .ref mo), (1, .int y)] := hl
  have hiX8 : ∀ w ∈ wsX80, w ∈ wsX8_isRow := fun _ h => List.mem_cons_of_mem _ (List.mem_append_right _ h)
  have hf199 := hts (.fieldLink RX8 199 "SignQuorumModel" "rows" "I") (by decide +kernel)
  refine lv_iload_n hx hb dX8_isRow_0 rfl (lv_at hl 1 rfl) ?_
  refine lv_if_lt (tgt := 16) hx hb dX8_isRow_1 (by decide) (fun c1 => ?_) (fun c1 => ?_)
  · skip
    refine lv_iconst (v := 0) hx hb dX8_isRow_16 (by decide) ?_
    refine xrz hx hb hr hlocks (by first | rfl | decide | exact b1_narrow _) hP hD hS ⟨rfl, ?_, ?_⟩ dX8_isRow_17
    · exact (b1_f (isN_no1 c1 (by omega))).symm
    · trivial
  · skip
    refine lv_iload_n hx hb dX8_isRow_4 rfl (lv_at hl 1 rfl) ?_
    refine lv_aload_n hx hb dX8_isRow_5 rfl (lv_at hl 0 rfl) ?_
    refine xgt TX8_2 (v := .int (nI rn)) hx hb hts hiX8 hown hev.1 (xro hR0 hap hS) 0 rfl (by decide) hf199 rfl dX8_isRow_6 ?_
    refine lv_icmp_ge (tgt := 16) hx hb dX8_isRow_9 (by decide) (fun c2 => ?_) (fun c2 => ?_)
    · skip
      refine lv_iconst (v := 0) hx hb dX8_isRow_16 (by decide) ?_
      refine xrz hx hb hr hlocks (by first | rfl | decide | exact b1_narrow _) hP hD hS ⟨rfl, ?_, ?_⟩ dX8_isRow_17
      · exact (b1_f (isN_no2 (n := rn) c2 (by omega))).symm
      · trivial
    · skip
      refine lv_iconst (v := 1) hx hb dX8_isRow_12 (by decide) ?_
      refine lv_goto (tgt := 17) hx hb dX8_isRow_13 (by decide) ?_
      refine xrz hx hb hr hlocks (by first | rfl | decide | exact b1_narrow _) hP hD hS ⟨rfl, ?_, ?_⟩ dX8_isRow_17
      · exact (b1_t (in_t rn c1 c2 (by omega))).symm
      · trivial

abbrev pX8_isRole (E : xE) (y : Int32) (r : Int32) (w : va_W) : Prop := w = [] ∧ r = b1 (isN y 10) ∧ (True)
set_option maxHeartbeats 4000000 in
set_option maxRecDepth 100000 in
theorem kX8_isRole (l : Launch) (E : xE) (y : Int32)  : KT l yX8_isRole wsX8_isRole 0 0 0 0 E [] [] [.int y] (QI E (pX8_isRole E y)) := by
  refine KT.start (cc := cX8_isRole) (maxL := 1) (ret := (some .boolean)) (by decide) rfl (Nat.le_of_ble_eq_true rfl) ?_
  intro p e s m below meth c A H hx hb hr hlocks hml hts hown hin hP hR0 hD hap hev hz hA hS ls hl
  have hl : lv_has ls 1 [(0, .int y)] := hl
  refine lv_iload_n hx hb dX8_isRole_0 rfl (lv_at hl 0 rfl) ?_
  refine lv_if_lt (tgt := 14) hx hb dX8_isRole_1 (by decide) (fun c1 => ?_) (fun c1 => ?_)
  · skip
    refine lv_iconst (v := 0) hx hb dX8_isRole_14 (by decide) ?_
    refine xrz hx hb hr hlocks (by first | rfl | decide | exact b1_narrow _) hP hD hS ⟨rfl, ?_, ?_⟩ dX8_isRole_15
    · exact (b1_f (isN_no1 c1 (by omega))).symm
    · trivial
  · skip
    refine lv_iload_n hx hb dX8_isRole_4 rfl (lv_at hl 0 rfl) ?_
    refine lv_bipush (v := 10) hx hb dX8_isRole_5 (by decide) ?_
    refine lv_icmp_ge (tgt := 14) hx hb dX8_isRole_7 (by decide) (fun c2 => ?_) (fun c2 => ?_)
    · skip
      refine lv_iconst (v := 0) hx hb dX8_isRole_14 (by decide) ?_
      refine xrz hx hb hr hlocks (by first | rfl | decide | exact b1_narrow _) hP hD hS ⟨rfl, ?_, ?_⟩ dX8_isRole_15
      · exact (b1_f (isN_no2 (n := 10) c2 (by omega))).symm
      · trivial
    · skip
      refine lv_iconst (v := 1) hx hb dX8_isRole_10 (by decide) ?_
      refine lv_goto (tgt := 15) hx hb dX8_isRole_11 (by decide) ?_
      refine xrz hx hb hr hlocks (by first | rfl | decide | exact b1_narrow _) hP hD hS ⟨rfl, ?_, ?_⟩ dX8_isRole_15
      · exact (b1_t (in_t 10 c1 c2 (by omega))).symm
      · trivial

abbrev pX8_isOpen (E : xE) (mo : Nat) (ad : Nat → Nat) (th : Int32) (kn : Nat) (rn : Nat) (mn : Nat) (dp : Nat) (a24 : Nat → Int32) (y : Int32) (r : Int32) (w : va_W) : Prop := w = [] ∧ r = b1 (∃ i, i < rn ∧ y = nI i ∧ a24 i = 0) ∧ (True)
set_option maxHeartbeats 4000000 in
set_option maxRecDepth 100000 in
theorem kX8_isOpen (l : Launch) (E : xE) (mo : Nat) (ad : Nat → Nat) (th : Int32) (kn : Nat) (rn : Nat) (mn : Nat) (dp : Nat) (a24 : Nat → Int32) (y : Int32) (hrn : rn ≤ 24) : KT l yX8_isOpen wsX8_isOpen 1 21 0 0 E [] [(mo, .inr (9, mOb ad th (nI kn) (nI rn) (nI mn) (nI dp))), (ad 24, aI E 24 a24)] [.ref mo, .int y] (QI E (pX8_isOpen E mo ad th kn rn mn dp a24 y)) := by
  refine KT.start (cc := cX8_isOpen) (maxL := 2) (ret := (some .boolean)) (by decide) rfl (Nat.le_of_ble_eq_true rfl) ?_
  intro p e s m below meth c A H hx hb hr hlocks hml hts hown hin hP hR0 hD hap hev hz hA hS ls hl
  have hl : lv_has ls 2 [(0, .ref mo), (1, .int y)] := hl
  have hiX8 : ∀ w ∈ wsX80, w ∈ wsX8_isOpen := fun _ h => List.mem_cons_of_mem _ (List.mem_append_right _ h)
  have hf75 := hts (.fieldLink RX8 75 "SignQuorumModel" "signatures" "[I") (by decide +kernel)
  refine lv_aload_n hx hb dX8_isOpen_0 rfl (lv_at hl 0 rfl) ?_
  refine lv_iload_n hx hb dX8_isOpen_1 rfl (lv_at hl 1 rfl) ?_
  have hP := hP.sub (ws' := [] ++ []) [] rfl
  have hD := hD.sub (ws' := [] ++ []) [] (by decide) rfl
  refine xci (va_runV (As := [.int y]) (rest := []) ⟨hx, hb, hml, hown, hts⟩ (kX8_isRow l E mo ad th kn rn mn dp y (by first | assumption | omega) H.size) (cwV 1 hts gX8_isOpen_X8_isRow rfl rfl rfl (by decide +kernel) ⟨Nat.le_of_ble_eq_true rfl, Nat.le_of_ble_eq_true rfl⟩) ⟨CP.blind, (va_recv hev.1 (xro hR0 hap hS) (ci := 9) (q0 := 0) rfl rfl), (xpre hev hz hA hP hD hS hR0 hap [0] rfl)⟩ rfl rfl hl.1 rfl (lv_room (Nat.le_of_ble_eq_true rfl)) dX8_isOpen_2 ⟨Nat.le_of_ble_eq_true rfl, Nat.le_of_ble_eq_true rfl⟩) hP hD hS hA (fun r1 w2 H locs h3 hP hD hS => ?_)
  obtain ⟨rfl, rfl, h3⟩ := h3
  try dsimp only at h3
  have hP : va_P E.1 vwCl [] H := hP
  have hD : va_D A [] := hD
  refine lv_if_eq (tgt := 21) hx hb dX8_isOpen_5 (by decide) (fun c4 => ?_) (fun c4 => ?_)
  · skip
    have kc4 := b1_0.mp c4
    refine lv_iconst (v := 0) hx hb dX8_isOpen_21 (by decide) ?_
    refine xrz hx hb hr hlocks (by first | rfl | decide | exact b1_narrow _) hP hD hS ⟨rfl, ?_, ?_⟩ dX8_isOpen_22
    · exact (b1_f (fun ⟨i, h1, h2, _⟩ => kc4 ⟨i, h1, h2⟩)).symm
    · trivial
  · skip
    have kc4 := b1_n.mp c4
    obtain ⟨i, hi, rfl⟩ := kc4
    refine lv_aload_n hx hb dX8_isOpen_8 rfl (lv_at hl 0 rfl) ?_
    refine xgt TX8_24 (v := .ref (ad 24)) hx hb hts hiX8 hown hev.1 (xro hR0 hap hS) 0 rfl (by decide) hf75 rfl dX8_isOpen_9 ?_
    refine lv_iload_n hx hb dX8_isOpen_12 rfl (lv_at hl 1 rfl) ?_
    refine xiald (k := (i)) hx hb hev.1 (xro hR0 hap hS) 1 1 rfl rfl (by omega) (by decide) dX8_isOpen_13 ?_
    refine lv_if_ne (tgt := 21) hx hb dX8_isOpen_14 (by decide) (fun c5 => ?_) (fun c5 => ?_)
    · skip
      refine lv_iconst (v := 0) hx hb dX8_isOpen_21 (by decide) ?_
      refine xrz hx hb hr hlocks (by first | rfl | decide | exact b1_narrow _) hP hD hS ⟨rfl, ?_, ?_⟩ dX8_isOpen_22
      · exact (b1_f (fun ⟨j, h1, h2, h3⟩ => c5 (by rw [(nI_eq (by omega) (by omega)).mp h2]; exact h3))).symm
      · trivial
    · skip
      refine lv_iconst (v := 1) hx hb dX8_isOpen_17 (by decide) ?_
      refine lv_goto (tgt := 22) hx hb dX8_isOpen_18 (by decide) ?_
      refine xrz hx hb hr hlocks (by first | rfl | decide | exact b1_narrow _) hP hD hS ⟨rfl, ?_, ?_⟩ dX8_isOpen_22
      · exact (b1_t ⟨i, hi, rfl, c5⟩).symm
      · trivial

abbrev pX8_bits (E : xE) (v : Int32) (r : Int32) (w : va_W) : Prop := w = [] ∧ r = btsI v 20 ∧ (True)
set_option maxHeartbeats 4000000 in
set_option maxRecDepth 100000 in
theorem kX8_bits (l : Launch) (E : xE) (v : Int32)  : KT l yX8_bits wsX8_bits 0 0 0 0 E [] [] [.int v] (QI E (pX8_bits E v)) := by
  refine KT.start (cc := cX8_bits) (maxL := 3) (ret := (some .int)) (by decide) rfl (Nat.le_of_ble_eq_true rfl) ?_
  intro p e s m below meth c A H hx hb hr hlocks hml hts hown hin hP hR0 hD hap hev hz hA hS ls hl
  have hl : lv_has ls 3 [(0, .int v)] := hl
  refine lv_iconst (v := 0) hx hb dX8_bits_0 (by decide) ?_
  refine lv_istore_n (lv' := [(1, .int 0), (0, .int v)]) hx hb dX8_bits_1 rfl hl (by decide) rfl (fun ls hl => ?_)
  refine lv_iconst (v := 0) hx hb dX8_bits_2 (by decide) ?_
  refine lv_istore_n (lv' := [(2, .int 0), (1, .int 0), (0, .int v)]) hx hb dX8_bits_3 rfl hl (by decide) rfl (fun ls hl => ?_)
  have loop4 : ∀ (fz : Nat) (i : Nat), (i ≤ 20) → (20 - i < fz) → ∀ (H : Heap) (locs : List Loc), va_P E.1 vwCl [] H → va_D A [] → va_S A s.heap H locs → ∀ ls : Array Slot, lv_has ls 3 [(2, .int (nI i)), (1, .int (btsI v i)), (0, .int v)] → W p l e ({ frames := 0, cells := 0, slots := 0, locals := 0 } : Room) s m ([.int v] : List Value).toArray below meth c H locs 0 0 (MQ below (QI E (pX8_bits E v) A) ([.int v] : List Value).toArray s 0 0 A) (F0 m 4 ls []) := by
    intro fz
    induction fz with
    | zero =>
      intro i hi hfuel
      exact absurd hfuel (by omega)
    | succ fz ih =>
      intro i hi hfuel H locs hP hD hS ls hl
      refine lv_iload_n hx hb dX8_bits_4 rfl (lv_at hl 0 rfl) ?_
      refine lv_bipush (v := 20) hx hb dX8_bits_5 (by decide) ?_
      refine lv_icmp_ge (tgt := 24) hx hb dX8_bits_7 (by decide) (fun c1 => ?_) (fun c1 => ?_)
      · skip
        have kc1 : 20 ≤ i := (nI_leI (a := 20) (b := i) (by omega) (by omega)).mp c1
        refine lv_iload_n hx hb dX8_bits_24 rfl (lv_at hl 1 rfl) ?_
        refine xri hx hb hr hlocks hP hD hS ⟨rfl, ?_, ?_⟩ dX8_bits_25
        · obtain rfl : i = 20 := by omega
          rfl
        · trivial
      · skip
        have kc1 : ¬ 20 ≤ i := fun h9 => c1 ((nI_leI (a := 20) (b := i) (by omega) (by omega)).mpr h9)
        refine lv_iload_n hx hb dX8_bits_10 rfl (lv_at hl 1 rfl) ?_
        refine lv_iload_n hx hb dX8_bits_11 rfl (lv_at hl 2 rfl) ?_
        refine lv_iload_n hx hb dX8_bits_12 rfl (lv_at hl 0 rfl) ?_
        refine lv_ishr hx hb dX8_bits_13 ?_
        refine lv_iconst (v := 1) hx hb dX8_bits_14 (by decide) ?_
        refine lv_iand hx hb dX8_bits_15 ?_
        refine lv_iadd hx hb dX8_bits_16 ?_
        refine xtop (y := btsI v (i + 1)) (rfl) ?_
        refine lv_istore_n (lv' := [(1, .int (btsI v (i + 1))), (2, .int (nI i)), (0, .int v)]) hx hb dX8_bits_17 rfl hl (by decide) rfl (fun ls hl => ?_)
        refine lv_iinc (v := nI (i + 1)) (lv' := [(2, .int (nI (i + 1))), (1, .int (btsI v (i + 1))), (0, .int v)]) hx hb dX8_bits_18 hl (k := 1) rfl ((nI_add i 1).trans (congrArg nI (by omega))) (by decide) rfl (fun ls hl => ?_)
        refine lv_goto (tgt := 4) hx hb dX8_bits_21 (by decide) ?_
        exact ih  (i + 1) (by omega) (by omega) _ _ hP hD hS ls (lv_sub hl [0, 1, 2] rfl)
  exact loop4 21 0 (by omega) (by omega) _ _ hP hD hS ls (lv_sub hl [0, 1, 2] rfl)

abbrev pX8_isAlive (E : xE) (mo : Nat) (ad : Nat → Nat) (th : Int32) (kn : Nat) (rn : Nat) (mn : Nat) (dp : Nat) (a14 : Nat → Int64) (q : Nat) (t : Int64) (r : Int32) (w : va_W) : Prop := w = [] ∧ r = b1 (¬ a14 q ≤ t) ∧ (True)
set_option maxHeartbeats 4000000 in
set_option maxRecDepth 100000 in
theorem kX8_isAlive (l : Launch) (E : xE) (mo : Nat) (ad : Nat → Nat) (th : Int32) (kn : Nat) (rn : Nat) (mn : Nat) (dp : Nat) (a14 : Nat → Int64) (q : Nat) (t : Int64) (hr24 : q < 24) : KT l yX8_isAlive wsX8_isAlive 0 0 0 0 E [] [(mo, .inr (9, mOb ad th (nI kn) (nI rn) (nI mn) (nI dp))), (ad 14, aJ E 24 a14)] [.ref mo, .int (nI q), .long t] (QI E (pX8_isAlive E mo ad th kn rn mn dp a14 q t)) := by
  refine KT.start (cc := cX8_isAlive) (maxL := 4) (ret := (some .boolean)) (by decide) rfl (Nat.le_of_ble_eq_true rfl) ?_
  intro p e s m below meth c A H hx hb hr hlocks hml hts hown hin hP hR0 hD hap hev hz hA hS ls hl
  have hl : lv_has ls 4 [(0, .ref mo), (1, .int (nI q)), (2, .long t)] := hl
  have hiX8 : ∀ w ∈ wsX80, w ∈ wsX8_isAlive := fun _ h => List.mem_cons_of_mem _ (List.mem_append_right _ h)
  have hf45 := hts (.fieldLink RX8 45 "SignQuorumModel" "until" "[J") (by decide +kernel)
  refine lv_iload_n hx hb dX8_isAlive_0 rfl (lv_at hl 1 rfl) ?_
  refine lv_iconst (v := (-1)) hx hb dX8_isAlive_1 (by decide) ?_
  refine lv_icmp_eq (tgt := 20) hx hb dX8_isAlive_2 (by decide) (fun c1 => absurd c1 (fun z9 => absurd (show nI q < 0 by rw [z9]; decide) (nI_pos (by omega)))) (fun c1 => ?_)
  refine lv_aload_n hx hb dX8_isAlive_5 rfl (lv_at hl 0 rfl) ?_
  refine xgt TX8_14 (v := .ref (ad 14)) hx hb hts hiX8 hown hev.1 (xro hR0 hap hS) 0 rfl (by decide) hf45 rfl dX8_isAlive_6 ?_
  refine lv_iload_n hx hb dX8_isAlive_9 rfl (lv_at hl 1 rfl) ?_
  refine xlald (k := (q)) hx hb hev.1 (xro hR0 hap hS) 1 2 rfl rfl (by omega) (by decide) dX8_isAlive_10 ?_
  refine lv_lload_n hx hb dX8_isAlive_11 rfl (lv_at hl 2 rfl) ?_
  refine W.lcmp hx hb dX8_isAlive_12 ?_
  refine lv_if_le (tgt := 20) hx hb dX8_isAlive_13 (by decide) (fun c2 => ?_) (fun c2 => ?_)
  · skip
    have kc2 : (a14 q) ≤ t := (lg_cmp_le (a14 q) t).mp c2
    refine lv_iconst (v := 0) hx hb dX8_isAlive_20 (by decide) ?_
    refine xrz hx hb hr hlocks (by first | rfl | decide | exact b1_narrow _) hP hD hS ⟨rfl, ?_, ?_⟩ dX8_isAlive_21
    · exact (b1_f (fun h9 => h9 kc2)).symm
    · trivial
  · skip
    have kc2 : ¬ (a14 q) ≤ t := fun h9 => c2 ((lg_cmp_le (a14 q) t).mpr h9)
    refine lv_iconst (v := 1) hx hb dX8_isAlive_16 (by decide) ?_
    refine lv_goto (tgt := 21) hx hb dX8_isAlive_17 (by decide) ?_
    refine xrz hx hb hr hlocks (by first | rfl | decide | exact b1_narrow _) hP hD hS ⟨rfl, ?_, ?_⟩ dX8_isAlive_21
    · exact (b1_t kc2).symm
    · trivial

abbrev pX8_isAliveN (E : xE) (mo : Nat) (ad : Nat → Nat) (th : Int32) (kn : Nat) (rn : Nat) (mn : Nat) (dp : Nat) (t : Int64) (r : Int32) (w : va_W) : Prop := w = [] ∧ r = 0 ∧ (True)
set_option maxHeartbeats 4000000 in
set_option maxRecDepth 100000 in
theorem kX8_isAliveN (l : Launch) (E : xE) (mo : Nat) (ad : Nat → Nat) (th : Int32) (kn : Nat) (rn : Nat) (mn : Nat) (dp : Nat) (t : Int64)  : KT l yX8_isAlive wsX8_isAlive 0 0 0 0 E [] [(mo, .inr (9, mOb ad th (nI kn) (nI rn) (nI mn) (nI dp)))] [.ref mo, .int (-1), .long t] (QI E (pX8_isAliveN E mo ad th kn rn mn dp t)) := by
  refine KT.start (cc := cX8_isAlive) (maxL := 4) (ret := (some .boolean)) (by decide) rfl (Nat.le_of_ble_eq_true rfl) ?_
  intro p e s m below meth c A H hx hb hr hlocks hml hts hown hin hP hR0 hD hap hev hz hA hS ls hl
  have hl : lv_has ls 4 [(0, .ref mo), (1, .int (-1)), (2, .long t)] := hl
  refine lv_iload_n hx hb dX8_isAlive_0 rfl (lv_at hl 1 rfl) ?_
  refine lv_iconst (v := (-1)) hx hb dX8_isAlive_1 (by decide) ?_
  refine lv_icmp_eq (tgt := 20) hx hb dX8_isAlive_2 (by decide) (fun c1 => ?_) (fun c1 => absurd (by decide) c1)
  refine lv_iconst (v := 0) hx hb dX8_isAlive_20 (by decide) ?_
  refine xrz hx hb hr hlocks (by first | rfl | decide | exact b1_narrow _) hP hD hS ⟨rfl, ?_, ?_⟩ dX8_isAlive_21
  · rfl
  · trivial

abbrev pX8_addSignature (E : xE) (mo : Nat) (ad : Nat → Nat) (th : Int32) (kn : Nat) (rn : Nat) (mn : Nat) (dp : Nat) (a24 : Nat → Int32) (a25 : Nat → Int32) (a26 : Nat → Int64) (r : Nat) (sn : Nat) (k : Int32) (sv : Int64) (w : va_W) : Prop := ∃ (g24 : Nat → Int32) (g25 : Nat → Int32) (g26 : Nat → Int64), w = [(ad 24, aI E 24 g24), (ad 25, aI E 288 g25), (ad 26, aJ E 288 g26)] ∧ (g24 = upd a24 r (nI (sn + 1)) ∧ g25 = upd a25 (12 * r + sn) k ∧ g26 = vp_updL a26 (12 * r + sn) sv)
set_option maxHeartbeats 4000000 in
set_option maxRecDepth 100000 in
theorem kX8_addSignature (l : Launch) (E : xE) (mo : Nat) (ad : Nat → Nat) (th : Int32) (kn : Nat) (rn : Nat) (mn : Nat) (dp : Nat) (a24 : Nat → Int32) (a25 : Nat → Int32) (a26 : Nat → Int64) (r : Nat) (sn : Nat) (k : Int32) (sv : Int64) (hr24 : r < 24) (ha24 : a24 r = nI sn) (hsn : sn < 12) : KT l yX8_addSignature wsX8_addSignature 0 0 0 0 E [(ad 24, aI E 24 a24), (ad 25, aI E 288 a25), (ad 26, aJ E 288 a26)] [(mo, .inr (9, mOb ad th (nI kn) (nI rn) (nI mn) (nI dp)))] [.ref mo, .int (nI r), .int k, .long sv] (QV E (pX8_addSignature E mo ad th kn rn mn dp a24 a25 a26 r sn k sv)) := by
  refine KT.start (cc := cX8_addSignature) (maxL := 5) (ret := none) (by decide) rfl (Nat.le_of_ble_eq_true rfl) ?_
  intro p e s m below meth c A H hx hb hr hlocks hml hts hown hin hP hR0 hD hap hev hz hA hS ls hl
  have hl : lv_has ls 5 [(0, .ref mo), (1, .int (nI r)), (2, .int k), (3, .long sv)] := hl
  have hiX8 : ∀ w ∈ wsX80, w ∈ wsX8_addSignature := fun _ h => List.mem_cons_of_mem _ (List.mem_append_right _ h)
  have hf75 := hts (.fieldLink RX8 75 "SignQuorumModel" "signatures" "[I") (by decide +kernel)
  have hf78 := hts (.fieldLink RX8 78 "SignQuorumModel" "signer" "[I") (by decide +kernel)
  have hf81 := hts (.fieldLink RX8 81 "SignQuorumModel" "signature" "[J") (by decide +kernel)
  refine lv_aload_n hx hb dX8_addSignature_0 rfl (lv_at hl 0 rfl) ?_
  refine xgt TX8_25 (v := .ref (ad 25)) hx hb hts hiX8 hown hev.1 (xro hR0 hap hS) 0 rfl (by decide) hf78 rfl dX8_addSignature_1 ?_
  refine lv_bipush (v := 12) hx hb dX8_addSignature_4 (by decide) ?_
  refine lv_iload_n hx hb dX8_addSignature_6 rfl (lv_at hl 1 rfl) ?_
  refine lv_imul hx hb dX8_addSignature_7 ?_
  refine xtop (y := nI (12 * r)) (pk_mul _ _) ?_
  refine lv_aload_n hx hb dX8_addSignature_8 rfl (lv_at hl 0 rfl) ?_
  refine xgt TX8_24 (v := .ref (ad 24)) hx hb hts hiX8 hown hev.1 (xro hR0 hap hS) 0 rfl (by decide) hf75 rfl dX8_addSignature_9 ?_
  refine lv_iload_n hx hb dX8_addSignature_12 rfl (lv_at hl 1 rfl) ?_
  refine xiald (k := (r)) hx hb hev.1 hP 0 1 rfl rfl (by omega) (by decide) dX8_addSignature_13 ?_
  refine xtop (y := nI sn) (ha24) ?_
  refine lv_iadd hx hb dX8_addSignature_14 ?_
  refine xtop (y := nI (12 * r + sn)) ((nI_add (12 * r) sn).trans (congrArg nI (by omega))) ?_
  refine lv_iload_n hx hb dX8_addSignature_15 rfl (lv_at hl 2 rfl) ?_
  refine xiast (k := 12 * r + sn) hx hb hev.1 hP hD hS 1 1 rfl rfl (by omega) (by decide) dX8_addSignature_16 (fun H locs hP hD hS => ?_)
  obtain ⟨f1, ef1⟩ : ∃ y9_ : Nat → Int32, y9_ = upd a25 (12 * r + sn) k := ⟨_, rfl⟩
  rw [← ef1] at hP hD
  have hP : va_P E.1 vwCl [(ad 24, aI E 24 a24), (ad 25, aI E 288 f1), (ad 26, aJ E 288 a26)] H := hP
  have hD : va_D A [(ad 24, aI E 24 a24), (ad 25, aI E 288 f1), (ad 26, aJ E 288 a26)] := hD
  refine lv_aload_n hx hb dX8_addSignature_17 rfl (lv_at hl 0 rfl) ?_
  refine xgt TX8_26 (v := .ref (ad 26)) hx hb hts hiX8 hown hev.1 (xro hR0 hap hS) 0 rfl (by decide) hf81 rfl dX8_addSignature_18 ?_
  refine lv_bipush (v := 12) hx hb dX8_addSignature_21 (by decide) ?_
  refine lv_iload_n hx hb dX8_addSignature_23 rfl (lv_at hl 1 rfl) ?_
  refine lv_imul hx hb dX8_addSignature_24 ?_
  refine xtop (y := nI (12 * r)) (pk_mul _ _) ?_
  refine lv_aload_n hx hb dX8_addSignature_25 rfl (lv_at hl 0 rfl) ?_
  refine xgt TX8_24 (v := .ref (ad 24)) hx hb hts hiX8 hown hev.1 (xro hR0 hap hS) 0 rfl (by decide) hf75 rfl dX8_addSignature_26 ?_
  refine lv_iload_n hx hb dX8_addSignature_29 rfl (lv_at hl 1 rfl) ?_
  refine xiald (k := (r)) hx hb hev.1 hP 0 1 rfl rfl (by omega) (by decide) dX8_addSignature_30 ?_
  refine xtop (y := nI sn) (ha24) ?_
  refine lv_iadd hx hb dX8_addSignature_31 ?_
  refine xtop (y := nI (12 * r + sn)) ((nI_add (12 * r) sn).trans (congrArg nI (by omega))) ?_
  refine lv_lload_n hx hb dX8_addSignature_32 rfl (lv_at hl 3 rfl) ?_
  refine xlast (k := 12 * r + sn) hx hb hev.1 hP hD hS 2 2 rfl rfl (by omega) (by decide) dX8_addSignature_33 (fun H locs hP hD hS => ?_)
  obtain ⟨f2, ef2⟩ : ∃ y9_ : Nat → Int64, y9_ = vp_updL a26 (12 * r + sn) sv := ⟨_, rfl⟩
  rw [← ef2] at hP hD
  have hP : va_P E.1 vwCl [(ad 24, aI E 24 a24), (ad 25, aI E 288 f1), (ad 26, aJ E 288 f2)] H := hP
  have hD : va_D A [(ad 24, aI E 24 a24), (ad 25, aI E 288 f1), (ad 26, aJ E 288 f2)] := hD
  refine lv_aload_n hx hb dX8_addSignature_34 rfl (lv_at hl 0 rfl) ?_
  refine xgt TX8_24 (v := .ref (ad 24)) hx hb hts hiX8 hown hev.1 (xro hR0 hap hS) 0 rfl (by decide) hf75 rfl dX8_addSignature_35 ?_
  refine lv_iload_n hx hb dX8_addSignature_38 rfl (lv_at hl 1 rfl) ?_
  refine lv_dup2_11 hx hb dX8_addSignature_39 rfl rfl ?_
  refine xiald (k := (r)) hx hb hev.1 hP 0 1 rfl rfl (by omega) (by decide) dX8_addSignature_40 ?_
  refine xtop (y := nI sn) (ha24) ?_
  refine lv_iconst (v := 1) hx hb dX8_addSignature_41 (by decide) ?_
  refine lv_iadd hx hb dX8_addSignature_42 ?_
  refine xtop (y := nI (sn + 1)) ((nI_add sn 1).trans (congrArg nI (by omega))) ?_
  refine xiast (k := r) hx hb hev.1 hP hD hS 0 1 rfl rfl (by omega) (by decide) dX8_addSignature_43 (fun H locs hP hD hS => ?_)
  obtain ⟨f3, ef3⟩ : ∃ y9_ : Nat → Int32, y9_ = upd a24 r (nI (sn + 1)) := ⟨_, rfl⟩
  rw [← ef3] at hP hD
  have hP : va_P E.1 vwCl [(ad 24, aI E 24 f3), (ad 25, aI E 288 f1), (ad 26, aJ E 288 f2)] H := hP
  have hD : va_D A [(ad 24, aI E 24 f3), (ad 25, aI E 288 f1), (ad 26, aJ E 288 f2)] := hD
  refine xrv hx hb hr hlocks hP hD hS ⟨f3, f1, f2, rfl, ?_⟩ dX8_addSignature_44
  exact ⟨by assumption, by assumption, by assumption⟩

abbrev pX8_toldAt (E : xE) (mo : Nat) (ad : Nat → Nat) (th : Int32) (kn : Nat) (rn : Nat) (mn : Nat) (dp : Nat) (a15 : Nat → Int32) (a16 : Nat → Int32) (q : Nat) (tn : Nat) (x : Int32) (r : Int32) (w : va_W) : Prop := w = [] ∧ r = (match lastAt a16 (7 * q) x tn with | none => -1 | some k => nI (7 * q + k)) ∧ (True)
set_option maxHeartbeats 4000000 in
set_option maxRecDepth 100000 in
theorem kX8_toldAt (l : Launch) (E : xE) (mo : Nat) (ad : Nat → Nat) (th : Int32) (kn : Nat) (rn : Nat) (mn : Nat) (dp : Nat) (a15 : Nat → Int32) (a16 : Nat → Int32) (q : Nat) (tn : Nat) (x : Int32) (hr24 : q < 24) (ha15 : a15 q = nI tn) (htn : tn ≤ 7) : KT l yX8_toldAt wsX8_toldAt 0 0 0 0 E [] [(mo, .inr (9, mOb ad th (nI kn) (nI rn) (nI mn) (nI dp))), (ad 15, aI E 24 a15), (ad 16, aI E 168 a16)] [.ref mo, .int (nI q), .int x] (QI E (pX8_toldAt E mo ad th kn rn mn dp a15 a16 q tn x)) := by
  refine KT.start (cc := cX8_toldAt) (maxL := 5) (ret := (some .int)) (by decide) rfl (Nat.le_of_ble_eq_true rfl) ?_
  intro p e s m below meth c A H hx hb hr hlocks hml hts hown hin hP hR0 hD hap hev hz hA hS ls hl
  have hl : lv_has ls 5 [(0, .ref mo), (1, .int (nI q)), (2, .int x)] := hl
  have hiX8 : ∀ w ∈ wsX80, w ∈ wsX8_toldAt := fun _ h => List.mem_cons_of_mem _ (List.mem_append_right _ h)
  have hf48 := hts (.fieldLink RX8 48 "SignQuorumModel" "told" "[I") (by decide +kernel)
  have hf51 := hts (.fieldLink RX8 51 "SignQuorumModel" "toldRole" "[I") (by decide +kernel)
  refine lv_iconst (v := (-1)) hx hb dX8_toldAt_0 (by decide) ?_
  refine lv_istore_n (lv' := [(3, .int (-1)), (0, .ref mo), (1, .int (nI q)), (2, .int x)]) hx hb dX8_toldAt_1 rfl hl (by decide) rfl (fun ls hl => ?_)
  refine lv_bipush (v := 7) hx hb dX8_toldAt_2 (by decide) ?_
  refine lv_iload_n hx hb dX8_toldAt_4 rfl (lv_at hl 2 rfl) ?_
  refine lv_imul hx hb dX8_toldAt_5 ?_
  refine xtop (y := nI (7 * q)) (pk_mul _ _) ?_
  refine lv_istore (lv' := [(4, .int (nI (7 * q))), (3, .int (-1)), (0, .ref mo), (1, .int (nI q)), (2, .int x)]) hx hb dX8_toldAt_6 hl (by decide) rfl (fun ls hl => ?_)
  have loop8 : ∀ (fz : Nat) (i : Nat), (i ≤ tn) → (tn - i < fz) → ∀ (H : Heap) (locs : List Loc), va_P E.1 vwCl [] H → va_D A [] → va_S A s.heap H locs → ∀ ls : Array Slot, lv_has ls 5 [(4, .int (nI (7 * q + i))), (3, .int (match lastAt a16 (7 * q) x i with | none => -1 | some k => nI (7 * q + k))), (0, .ref mo), (1, .int (nI q)), (2, .int x)] → W p l e ({ frames := 0, cells := 0, slots := 0, locals := 0 } : Room) s m ([.ref mo, .int (nI q), .int x] : List Value).toArray below meth c H locs 0 0 (MQ below (QI E (pX8_toldAt E mo ad th kn rn mn dp a15 a16 q tn x) A) ([.ref mo, .int (nI q), .int x] : List Value).toArray s 0 0 A) (F0 m 8 ls []) := by
    intro fz
    induction fz with
    | zero =>
      intro i hi hfuel
      exact absurd hfuel (by omega)
    | succ fz ih =>
      intro i hi hfuel H locs hP hD hS ls hl
      refine lv_iload hx hb dX8_toldAt_8 (lv_at hl 0 rfl) ?_
      refine lv_bipush (v := 7) hx hb dX8_toldAt_10 (by decide) ?_
      refine lv_iload_n hx hb dX8_toldAt_12 rfl (lv_at hl 3 rfl) ?_
      refine lv_imul hx hb dX8_toldAt_13 ?_
      refine xtop (y := nI (7 * q)) (pk_mul _ _) ?_
      refine lv_aload_n hx hb dX8_toldAt_14 rfl (lv_at hl 2 rfl) ?_
      refine xgt TX8_15 (v := .ref (ad 15)) hx hb hts hiX8 hown hev.1 (xro hR0 hap hS) 0 rfl (by decide) hf48 rfl dX8_toldAt_15 ?_
      refine lv_iload_n hx hb dX8_toldAt_18 rfl (lv_at hl 3 rfl) ?_
      refine xiald (k := (q)) hx hb hev.1 (xro hR0 hap hS) 1 1 rfl rfl (by omega) (by decide) dX8_toldAt_19 ?_
      refine xtop (y := nI tn) (ha15) ?_
      refine lv_iadd hx hb dX8_toldAt_20 ?_
      refine xtop (y := nI (7 * q + tn)) ((nI_add (7 * q) tn).trans (congrArg nI (by omega))) ?_
      refine lv_icmp_ge (tgt := 48) hx hb dX8_toldAt_21 (by decide) (fun c1 => ?_) (fun c1 => ?_)
      · skip
        have kc1 : (7 * q + tn) ≤ (7 * q + i) := (nI_leI (a := (7 * q + tn)) (b := (7 * q + i)) (by omega) (by omega)).mp c1
        refine lv_iload_n hx hb dX8_toldAt_48 rfl (lv_at hl 1 rfl) ?_
        refine xri hx hb hr hlocks hP hD hS ⟨rfl, ?_, ?_⟩ dX8_toldAt_49
        · obtain rfl : i = tn := by omega
          rfl
        · trivial
      · skip
        have kc1 : ¬ (7 * q + tn) ≤ (7 * q + i) := fun h9 => c1 ((nI_leI (a := (7 * q + tn)) (b := (7 * q + i)) (by omega) (by omega)).mpr h9)
        refine lv_aload_n hx hb dX8_toldAt_24 rfl (lv_at hl 2 rfl) ?_
        refine xgt TX8_16 (v := .ref (ad 16)) hx hb hts hiX8 hown hev.1 (xro hR0 hap hS) 0 rfl (by decide) hf51 rfl dX8_toldAt_25 ?_
        refine lv_iload hx hb dX8_toldAt_28 (lv_at hl 0 rfl) ?_
        refine xiald (k := (7 * q + i)) hx hb hev.1 (xro hR0 hap hS) 2 1 rfl rfl (by omega) (by decide) dX8_toldAt_30 ?_
        refine lv_iload_n hx hb dX8_toldAt_31 rfl (lv_at hl 4 rfl) ?_
        refine lv_icmp_ne (tgt := 40) hx hb dX8_toldAt_32 (by decide) (fun c2 => ?_) (fun c2 => ?_)
        · skip
          refine lv_iload_n hx hb dX8_toldAt_40 rfl (lv_at hl 1 rfl) ?_
          refine xtop (y := (match lastAt a16 (7 * q) x (i + 1) with | none => -1 | some k => nI (7 * q + k))) (by rw [lastAt, if_neg c2]) ?_
          refine lv_istore_n (lv' := [(3, .int (match lastAt a16 (7 * q) x (i + 1) with | none => -1 | some k => nI (7 * q + k))), (4, .int (nI (7 * q + i))), (0, .ref mo), (1, .int (nI q)), (2, .int x)]) hx hb dX8_toldAt_41 rfl hl (by decide) rfl (fun ls hl => ?_)
          refine lv_iinc (v := nI (7 * q + i + 1)) (lv' := [(4, .int (nI (7 * q + i + 1))), (3, .int (match lastAt a16 (7 * q) x (i + 1) with | none => -1 | some k => nI (7 * q + k))), (0, .ref mo), (1, .int (nI q)), (2, .int x)]) hx hb dX8_toldAt_42 hl (k := 1) rfl ((nI_add (7 * q + i) 1).trans (congrArg nI (by omega))) (by decide) rfl (fun ls hl => ?_)
          refine lv_goto (tgt := 8) hx hb dX8_toldAt_45 (by decide) ?_
          rw [show (7 * q + i + 1 : Nat) = 7 * q + (i + 1) by omega] at hl
          have hl : lv_has ls 5 [(4, .int (nI (7 * q + (i + 1)))), (3, .int (match lastAt a16 (7 * q) x (i + 1) with | none => -1 | some k => nI (7 * q + k))), (0, .ref mo), (1, .int (nI q)), (2, .int x)] := hl
          exact ih  (i + 1) (by omega) (by omega) _ _ hP hD hS ls (lv_sub hl [0, 1, 2, 3, 4] rfl)
        · skip
          refine lv_iload hx hb dX8_toldAt_35 (lv_at hl 0 rfl) ?_
          refine lv_goto (tgt := 41) hx hb dX8_toldAt_37 (by decide) ?_
          refine xtop (y := (match lastAt a16 (7 * q) x (i + 1) with | none => -1 | some k => nI (7 * q + k))) (by rw [lastAt, if_pos c2]) ?_
          refine lv_istore_n (lv' := [(3, .int (match lastAt a16 (7 * q) x (i + 1) with | none => -1 | some k => nI (7 * q + k))), (4, .int (nI (7 * q + i))), (0, .ref mo), (1, .int (nI q)), (2, .int x)]) hx hb dX8_toldAt_41 rfl hl (by decide) rfl (fun ls hl => ?_)
          refine lv_iinc (v := nI (7 * q + i + 1)) (lv' := [(4, .int (nI (7 * q + i + 1))), (3, .int (match lastAt a16 (7 * q) x (i + 1) with | none => -1 | some k => nI (7 * q + k))), (0, .ref mo), (1, .int (nI q)), (2, .int x)]) hx hb dX8_toldAt_42 hl (k := 1) rfl ((nI_add (7 * q + i) 1).trans (congrArg nI (by omega))) (by decide) rfl (fun ls hl => ?_)
          refine lv_goto (tgt := 8) hx hb dX8_toldAt_45 (by decide) ?_
          rw [show (7 * q + i + 1 : Nat) = 7 * q + (i + 1) by omega] at hl
          have hl : lv_has ls 5 [(4, .int (nI (7 * q + (i + 1)))), (3, .int (match lastAt a16 (7 * q) x (i + 1) with | none => -1 | some k => nI (7 * q + k))), (0, .ref mo), (1, .int (nI q)), (2, .int x)] := hl
          exact ih  (i + 1) (by omega) (by omega) _ _ hP hD hS ls (lv_sub hl [0, 1, 2, 3, 4] rfl)
  exact loop8 (tn + 1) 0 (by omega) (by omega) _ _ hP hD hS ls (lv_sub hl [0, 1, 2, 3, 4] rfl)

abbrev pX8_rightOne (E : xE) (mo : Nat) (ad : Nat → Nat) (th : Int32) (kn : Nat) (rn : Nat) (mn : Nat) (dp : Nat) (a29 : Nat → Int32) (a30 : Nat → Int32) (a34 : Nat → Int32) (a35 : Nat → Int32) (a36 : Nat → Int32) (a3 : Nat → Int64) (a14 : Nat → Int64) (a32 : Nat → Int32) (a33 : Nat → Int32) (a8 : Nat → Int32) (a9 : Nat → Int32) (a10 : Nat → Int32) (a11 : Nat → Int32) (a12 : Nat → Int32) (a13 : Nat → Int32) (a15 : Nat → Int32) (a16 : Nat → Int32) (a17 : Nat → Int32) (a18 : Nat → Int32) (a19 : Nat → Int32) (a20 : Nat → Int32) (a21 : Nat → Int32) (a22 : Nat → Int32) (a23 : Nat → Int32) (q : Nat) (rl : Nat) (oc : Nat) (tn : Nat) (dn : Nat) (pn : Nat) (k : Nat) (r : Int64) (w : va_W) : Prop := ∃ (m2 : Nat) (g29 : Nat → Int32) (g30 : Nat → Int32) (g34 : Nat → Int32) (g35 : Nat → Int32) (g36 : Nat → Int32), w = [(mo, .inr (9, mOb ad th (nI kn) (nI rn) (nI m2) (nI dp))), (ad 29, aI E 256 g29), (ad 30, aI E 32 g30), (ad 34, aI E 16 g34), (ad 35, aI E 8 g35), (ad 36, aI E 8 g36)] ∧ r = mSig (uB8 (a3 k) ++ mrowB rl (a11 q) (a14 q) oc a13 a8 a9 tn a16 a17 dn a19 a20 a21 pn a23 q) ∧ (True)
set_option maxHeartbeats 4000000 in
set_option maxRecDepth 100000 in
theorem kX8_rightOne (l : Launch) (E : xE) (mo : Nat) (ad : Nat → Nat) (th : Int32) (kn : Nat) (rn : Nat) (mn : Nat) (dp : Nat) (a29 : Nat → Int32) (a30 : Nat → Int32) (a34 : Nat → Int32) (a35 : Nat → Int32) (a36 : Nat → Int32) (a3 : Nat → Int64) (a14 : Nat → Int64) (a32 : Nat → Int32) (a33 : Nat → Int32) (a8 : Nat → Int32) (a9 : Nat → Int32) (a10 : Nat → Int32) (a11 : Nat → Int32) (a12 : Nat → Int32) (a13 : Nat → Int32) (a15 : Nat → Int32) (a16 : Nat → Int32) (a17 : Nat → Int32) (a18 : Nat → Int32) (a19 : Nat → Int32) (a20 : Nat → Int32) (a21 : Nat → Int32) (a22 : Nat → Int32) (a23 : Nat → Int32) (q : Nat) (rl : Nat) (oc : Nat) (tn : Nat) (dn : Nat) (pn : Nat) (k : Nat) (hk : k < 20) (hfs : ∀ k, k < 8 → a32 k = sFS k) (hst : ∀ k, k < 64 → a33 k = sRC k) (hr24 : q < 24) (ha10 : a10 q = nI rl) (ha12 : a12 q = nI oc) (ha15 : a15 q = nI tn) (ha18 : a18 q = nI dn) (ha22 : a22 q = nI pn) (hrl : rl < 10) (hoc : oc ≤ 16) (htn : tn ≤ 7) (hdn : dn ≤ 6) (hpn : pn ≤ 6) : KT l yX8_rightOne wsX8_rightOne 5 118 0 0 E [(mo, .inr (9, mOb ad th (nI kn) (nI rn) (nI mn) (nI dp))), (ad 29, aI E 256 a29), (ad 30, aI E 32 a30), (ad 34, aI E 16 a34), (ad 35, aI E 8 a35), (ad 36, aI E 8 a36)] [(ad 3, aJ E 20 a3), (ad 14, aJ E 24 a14), (ad 32, aI E 8 a32), (ad 33, aI E 64 a33), (ad 8, aI E 240 a8), (ad 9, aI E 240 a9), (ad 10, aI E 24 a10), (ad 11, aI E 24 a11), (ad 12, aI E 24 a12), (ad 13, aI E 384 a13), (ad 15, aI E 24 a15), (ad 16, aI E 168 a16), (ad 17, aI E 168 a17), (ad 18, aI E 24 a18), (ad 19, aI E 144 a19), (ad 20, aI E 144 a20), (ad 21, aZ E 144 a21), (ad 22, aI E 24 a22), (ad 23, aI E 144 a23)] [.ref mo, .int (nI q), .int (nI k)] (QL E (pX8_rightOne E mo ad th kn rn mn dp a29 a30 a34 a35 a36 a3 a14 a32 a33 a8 a9 a10 a11 a12 a13 a15 a16 a17 a18 a19 a20 a21 a22 a23 q rl oc tn dn pn k)) := by
  refine KT.start (cc := cX8_rightOne) (maxL := 6) (ret := (some .long)) (by decide) rfl (Nat.le_of_ble_eq_true rfl) ?_
  intro p e s m below meth c A H hx hb hr hlocks hml hts hown hin hP hR0 hD hap hev hz hA hS ls hl
  have hl : lv_has ls 6 [(0, .ref mo), (1, .int (nI q)), (2, .int (nI k))] := hl
  have hiX8 : ∀ w ∈ wsX80, w ∈ wsX8_rightOne := fun _ h => List.mem_cons_of_mem _ (List.mem_append_right _ h)
  have hf206 := hts (.fieldLink RX8 206 "SignQuorumModel" "many" "I") (by decide +kernel)
  have hf7 := hts (.fieldLink RX8 7 "SignQuorumModel" "secret" "[J") (by decide +kernel)
  have hf90 := hts (.fieldLink RX8 90 "SignQuorumModel" "made" "[I") (by decide +kernel)
  have hrb := mrowB_le (role := rl) (a11 q) (a14 q) a13 a8 a9 a16 a17 a19 a20 a21 a23 q hoc htn hdn hpn
  refine lv_aload_n hx hb dX8_rightOne_0 rfl (lv_at hl 0 rfl) ?_
  refine lv_iconst (v := 0) hx hb dX8_rightOne_1 (by decide) ?_
  refine xpt TX8_28 (v := 0) hx hb hts hiX8 hown hev.1 hP hD hS 0 rfl (by decide) hf206 (Nat.le_of_ble_eq_true rfl) dX8_rightOne_2 (fun H locs hP hD hS => ?_)
  have hP : va_P E.1 vwCl [(mo, .inr (9, mOb ad th (nI kn) (nI rn) 0 (nI dp))), (ad 29, aI E 256 a29), (ad 30, aI E 32 a30), (ad 34, aI E 16 a34), (ad 35, aI E 8 a35), (ad 36, aI E 8 a36)] H := hP
  have hD : va_D A [(mo, .inr (9, mOb ad th (nI kn) (nI rn) 0 (nI dp))), (ad 29, aI E 256 a29), (ad 30, aI E 32 a30), (ad 34, aI E 16 a34), (ad 35, aI E 8 a35), (ad 36, aI E 8 a36)] := hD
  refine lv_aload_n hx hb dX8_rightOne_5 rfl (lv_at hl 0 rfl) ?_
  refine lv_aload_n hx hb dX8_rightOne_6 rfl (lv_at hl 0 rfl) ?_
  refine xgt TX8_3 (v := .ref (ad 3)) hx hb hts hiX8 hown hev.1 hP 0 rfl (by decide) hf7 rfl dX8_rightOne_7 ?_
  refine lv_iload_n hx hb dX8_rightOne_10 rfl (lv_at hl 2 rfl) ?_
  refine xlald (k := (k)) hx hb hev.1 (xro hR0 hap hS) 0 2 rfl rfl (by omega) (by decide) dX8_rightOne_11 ?_
  refine lv_bipush (v := 8) hx hb dX8_rightOne_12 (by decide) ?_
  have hP := hP.sub (ws' := [(mo, .inr (9, mOb ad th (nI kn) (nI rn) 0 (nI dp))), (ad 29, aI E 256 a29)] ++ [(ad 30, aI E 32 a30), (ad 34, aI E 16 a34), (ad 35, aI E 8 a35), (ad 36, aI E 8 a36)]) [0, 1, 2, 3, 4, 5] rfl
  have hD := hD.sub (ws' := [(mo, .inr (9, mOb ad th (nI kn) (nI rn) 0 (nI dp))), (ad 29, aI E 256 a29)] ++ [(ad 30, aI E 32 a30), (ad 34, aI E 16 a34), (ad 35, aI E 8 a35), (ad 36, aI E 8 a36)]) [0, 1, 2, 3, 4, 5] (by decide) rfl
  refine xcv (va_runV (As := [.long (a3 k), .int 8]) (rest := []) ⟨hx, hb, hml, hown, hts⟩ (kX8_put8 l E mo ad th kn rn 0 dp a29 (a3 k) (by first | assumption | omega) H.size) (cwV 2 hts gX8_rightOne_X8_put rfl rfl rfl (by decide +kernel) ⟨Nat.le_of_ble_eq_true rfl, Nat.le_of_ble_eq_true rfl⟩) ⟨CP.blind, (va_recv hev.1 hP.left (ci := 9) (q0 := 0) rfl rfl), (xpre hev hz hA hP hD hS hR0 hap [] rfl)⟩ rfl rfl hl.1 rfl (lv_room (Nat.le_of_ble_eq_true rfl)) dX8_rightOne_14 ⟨Nat.le_of_ble_eq_true rfl, Nat.le_of_ble_eq_true rfl⟩) hP hD hS hA (fun w2 H locs h3 hP hD hS => ?_)
  obtain ⟨g4, rfl, h3⟩ := h3
  try dsimp only at h3
  try rw [show (0 + 8 : Nat) = 8 by omega] at hP hD
  have hP : va_P E.1 vwCl [(mo, .inr (9, mOb ad th (nI kn) (nI rn) (nI 8) (nI dp))), (ad 29, aI E 256 g4), (ad 30, aI E 32 a30), (ad 34, aI E 16 a34), (ad 35, aI E 8 a35), (ad 36, aI E 8 a36)] H := hP
  have hD : va_D A [(mo, .inr (9, mOb ad th (nI kn) (nI rn) (nI 8) (nI dp))), (ad 29, aI E 256 g4), (ad 30, aI E 32 a30), (ad 34, aI E 16 a34), (ad 35, aI E 8 a35), (ad 36, aI E 8 a36)] := hD
  refine lv_aload_n hx hb dX8_rightOne_17 rfl (lv_at hl 0 rfl) ?_
  refine lv_iload_n hx hb dX8_rightOne_18 rfl (lv_at hl 1 rfl) ?_
  have hP := hP.sub (ws' := [(mo, .inr (9, mOb ad th (nI kn) (nI rn) (nI 8) (nI dp))), (ad 29, aI E 256 g4)] ++ [(ad 30, aI E 32 a30), (ad 34, aI E 16 a34), (ad 35, aI E 8 a35), (ad 36, aI E 8 a36)]) [0, 1, 2, 3, 4, 5] rfl
  have hD := hD.sub (ws' := [(mo, .inr (9, mOb ad th (nI kn) (nI rn) (nI 8) (nI dp))), (ad 29, aI E 256 g4)] ++ [(ad 30, aI E 32 a30), (ad 34, aI E 16 a34), (ad 35, aI E 8 a35), (ad 36, aI E 8 a36)]) [0, 1, 2, 3, 4, 5] (by decide) rfl
  refine xcv (va_runV (As := [.int (nI q)]) (rest := []) ⟨hx, hb, hml, hown, hts⟩ (kX8_putRow l E mo ad th kn rn 8 dp g4 a14 a8 a9 a10 a11 a12 a13 a15 a16 a17 a18 a19 a20 a21 a22 a23 q rl oc tn dn pn (by first | assumption | omega) (by first | assumption | omega) (by first | assumption | omega) (by first | assumption | omega) (by first | assumption | omega) (by first | assumption | omega) (by first | assumption | omega) (by first | assumption | omega) (by first | assumption | omega) (by first | assumption | omega) (by first | assumption | omega) (by first | assumption | omega) H.size) (cwV 1 hts gX8_rightOne_X8_putRow rfl rfl rfl (by decide +kernel) ⟨Nat.le_of_ble_eq_true rfl, Nat.le_of_ble_eq_true rfl⟩) ⟨CP.blind, (va_recv hev.1 hP.left (ci := 9) (q0 := 0) rfl rfl), (xpre hev hz hA hP hD hS hR0 hap [5, 8, 9, 10, 11, 12, 13, 14, 15, 16, 17, 18, 19, 20, 21, 22] rfl)⟩ rfl rfl hl.1 rfl (lv_room (Nat.le_of_ble_eq_true rfl)) dX8_rightOne_19 ⟨Nat.le_of_ble_eq_true rfl, Nat.le_of_ble_eq_true rfl⟩) hP hD hS hA (fun w6 H locs h7 hP hD hS => ?_)
  obtain ⟨g8, rfl, h7⟩ := h7
  try dsimp only at h7
  have hP : va_P E.1 vwCl [(mo, .inr (9, mOb ad th (nI kn) (nI rn) (nI (8 + (mrowB rl (a11 q) (a14 q) oc a13 a8 a9 tn a16 a17 dn a19 a20 a21 pn a23 q).length)) (nI dp))), (ad 29, aI E 256 g8), (ad 30, aI E 32 a30), (ad 34, aI E 16 a34), (ad 35, aI E 8 a35), (ad 36, aI E 8 a36)] H := hP
  have hD : va_D A [(mo, .inr (9, mOb ad th (nI kn) (nI rn) (nI (8 + (mrowB rl (a11 q) (a14 q) oc a13 a8 a9 tn a16 a17 dn a19 a20 a21 pn a23 q).length)) (nI dp))), (ad 29, aI E 256 g8), (ad 30, aI E 32 a30), (ad 34, aI E 16 a34), (ad 35, aI E 8 a35), (ad 36, aI E 8 a36)] := hD
  refine lv_aload_n hx hb dX8_rightOne_22 rfl (lv_at hl 0 rfl) ?_
  have hP := hP.sub (ws' := [(mo, .inr (9, mOb ad th (nI kn) (nI rn) (nI (8 + (mrowB rl (a11 q) (a14 q) oc a13 a8 a9 tn a16 a17 dn a19 a20 a21 pn a23 q).length)) (nI dp))), (ad 29, aI E 256 g8), (ad 30, aI E 32 a30), (ad 34, aI E 16 a34), (ad 35, aI E 8 a35), (ad 36, aI E 8 a36)] ++ []) [0, 1, 2, 3, 4, 5] rfl
  have hD := hD.sub (ws' := [(mo, .inr (9, mOb ad th (nI kn) (nI rn) (nI (8 + (mrowB rl (a11 q) (a14 q) oc a13 a8 a9 tn a16 a17 dn a19 a20 a21 pn a23 q).length)) (nI dp))), (ad 29, aI E 256 g8), (ad 30, aI E 32 a30), (ad 34, aI E 16 a34), (ad 35, aI E 8 a35), (ad 36, aI E 8 a36)] ++ []) [0, 1, 2, 3, 4, 5] (by decide) rfl
  refine xcv (va_runV (As := []) (rest := []) ⟨hx, hb, hml, hown, hts⟩ (kX8_digestAll l E mo ad th kn rn (8 + (mrowB rl (a11 q) (a14 q) oc a13 a8 a9 tn a16 a17 dn a19 a20 a21 pn a23 q).length) dp g8 a30 a32 a33 a34 a35 a36 (by first | assumption | omega) (by first | assumption | omega) (by first | assumption | omega) H.size) (cwV 0 hts gX8_rightOne_X8_digestAll rfl rfl rfl (by decide +kernel) ⟨Nat.le_of_ble_eq_true rfl, Nat.le_of_ble_eq_true rfl⟩) ⟨CP.blind, (va_recv hev.1 hP.left (ci := 9) (q0 := 0) rfl rfl), (xpre hev hz hA hP hD hS hR0 hap [2, 3] rfl)⟩ rfl rfl hl.1 rfl (lv_room (Nat.le_of_ble_eq_true rfl)) dX8_rightOne_23 ⟨Nat.le_of_ble_eq_true rfl, Nat.le_of_ble_eq_true rfl⟩) hP hD hS hA (fun w10 H locs h11 hP hD hS => ?_)
  obtain ⟨m212, g2913, g3014, g3415, g3516, g3617, rfl, h11⟩ := h11
  try dsimp only at h11
  have hP : va_P E.1 vwCl [(mo, .inr (9, mOb ad th (nI kn) (nI rn) (nI m212) (nI dp))), (ad 29, aI E 256 g2913), (ad 30, aI E 32 g3014), (ad 34, aI E 16 g3415), (ad 35, aI E 8 g3516), (ad 36, aI E 8 g3617)] H := hP
  have hD : va_D A [(mo, .inr (9, mOb ad th (nI kn) (nI rn) (nI m212) (nI dp))), (ad 29, aI E 256 g2913), (ad 30, aI E 32 g3014), (ad 34, aI E 16 g3415), (ad 35, aI E 8 g3516), (ad 36, aI E 8 g3617)] := hD
  have hW := shaUL_of h11.1 (ap_step (show _ = ap a29 0 (uB8 (a3 k)) from h3) h7 rfl) (by rw [List.length_append]; rfl)
  have hsig := mSig_of hW h11.2
  refine lv_lconst (v := 0) hx hb dX8_rightOne_26 (by decide) ?_
  refine lv_lstore_n (lv' := [(3, .long 0), (0, .ref mo), (1, .int (nI q)), (2, .int (nI k))]) hx hb dX8_rightOne_27 rfl hl (by decide) rfl (fun ls hl => ?_)
  refine lv_iconst (v := 0) hx hb dX8_rightOne_28 (by decide) ?_
  refine lv_istore (lv' := [(5, .int 0), (3, .long 0), (0, .ref mo), (1, .int (nI q)), (2, .int (nI k))]) hx hb dX8_rightOne_29 hl (by decide) rfl (fun ls hl => ?_)
  have loop31 : ∀ (fz : Nat) (i : Nat), (i ≤ 8) → (8 - i < fz) → ∀ (H : Heap) (locs : List Loc), va_P E.1 vwCl [(mo, .inr (9, mOb ad th (nI kn) (nI rn) (nI m212) (nI dp))), (ad 29, aI E 256 g2913), (ad 30, aI E 32 g3014), (ad 34, aI E 16 g3415), (ad 35, aI E 8 g3516), (ad 36, aI E 8 g3617)] H → va_D A [(mo, .inr (9, mOb ad th (nI kn) (nI rn) (nI m212) (nI dp))), (ad 29, aI E 256 g2913), (ad 30, aI E 32 g3014), (ad 34, aI E 16 g3415), (ad 35, aI E 8 g3516), (ad 36, aI E 8 g3617)] → va_S A s.heap H locs → ∀ ls : Array Slot, lv_has ls 6 [(5, .int (nI i)), (3, .long (f8n g3014 i)), (0, .ref mo)] → W p l e ({ frames := 5, cells := 0, slots := 0, locals := 118 } : Room) s m ([.ref mo, .int (nI q), .int (nI k)] : List Value).toArray below meth c H locs 0 0 (MQ below (QL E (pX8_rightOne E mo ad th kn rn mn dp a29 a30 a34 a35 a36 a3 a14 a32 a33 a8 a9 a10 a11 a12 a13 a15 a16 a17 a18 a19 a20 a21 a22 a23 q rl oc tn dn pn k) A) ([.ref mo, .int (nI q), .int (nI k)] : List Value).toArray s 0 0 A) (F0 m 31 ls []) := by
    intro fz
    induction fz with
    | zero =>
      intro i hi hfuel
      exact absurd hfuel (by omega)
    | succ fz ih =>
      intro i hi hfuel H locs hP hD hS ls hl
      refine lv_iload hx hb dX8_rightOne_31 (lv_at hl 0 rfl) ?_
      refine lv_bipush (v := 8) hx hb dX8_rightOne_33 (by decide) ?_
      refine lv_icmp_ge (tgt := 58) hx hb dX8_rightOne_35 (by decide) (fun c18 => ?_) (fun c18 => ?_)
      · skip
        have kc18 : 8 ≤ i := (nI_leI (a := 8) (b := i) (by omega) (by omega)).mp c18
        refine lv_lload_n hx hb dX8_rightOne_58 rfl (lv_at hl 1 rfl) ?_
        refine xrl hx hb hr hlocks hP hD hS ⟨m212, g2913, g3014, g3415, g3516, g3617, rfl, ?_, ?_⟩ dX8_rightOne_59
        · obtain rfl : i = 8 := by omega
          exact hsig
        · trivial
      · skip
        have kc18 : ¬ 8 ≤ i := fun h9 => c18 ((nI_leI (a := 8) (b := i) (by omega) (by omega)).mpr h9)
        refine lv_lload_n hx hb dX8_rightOne_38 rfl (lv_at hl 1 rfl) ?_
        refine lv_bipush (v := 8) hx hb dX8_rightOne_39 (by decide) ?_
        refine lv_lshl (v := (f8n g3014 i) <<< ((8 : Int32).toInt64 &&& 63)) hx hb dX8_rightOne_41 rfl ?_
        refine lv_aload_n hx hb dX8_rightOne_42 rfl (lv_at hl 2 rfl) ?_
        refine xgt TX8_30 (v := .ref (ad 30)) hx hb hts hiX8 hown hev.1 hP 0 rfl (by decide) hf90 rfl dX8_rightOne_43 ?_
        refine lv_iload hx hb dX8_rightOne_46 (lv_at hl 0 rfl) ?_
        refine xiald (k := (i)) hx hb hev.1 hP 2 1 rfl rfl (by omega) (by decide) dX8_rightOne_48 ?_
        refine lv_i2l (v := (g3014 i).toInt64) hx hb dX8_rightOne_49 rfl ?_
        refine lv_lor hx hb dX8_rightOne_50 ?_
        refine xtopl (y := f8n g3014 (i + 1)) (rfl) ?_
        refine lv_lstore_n (lv' := [(3, .long (f8n g3014 (i + 1))), (5, .int (nI i)), (0, .ref mo)]) hx hb dX8_rightOne_51 rfl hl (by decide) rfl (fun ls hl => ?_)
        refine lv_iinc (v := nI (i + 1)) (lv' := [(5, .int (nI (i + 1))), (3, .long (f8n g3014 (i + 1))), (0, .ref mo)]) hx hb dX8_rightOne_52 hl (k := 1) rfl ((nI_add i 1).trans (congrArg nI (by omega))) (by decide) rfl (fun ls hl => ?_)
        refine lv_goto (tgt := 31) hx hb dX8_rightOne_55 (by decide) ?_
        exact ih  (i + 1) (by omega) (by omega) _ _ hP hD hS ls (lv_sub hl [0, 1, 2] rfl)
  exact loop31 9 0 (by omega) (by omega) _ _ hP hD hS ls (lv_sub hl [0, 1, 2] rfl)
