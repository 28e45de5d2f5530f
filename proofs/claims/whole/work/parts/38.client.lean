abbrev pX0_init (E : xE) (c0 : Nat) (w : va_W) : Prop := ∃ (cr : Nat), w = [(c0, .inr (1, [.ref cr, .int 0, .int 0])), (cr, aR E 10 (fun _ => none))] ∧ (True)
set_option maxHeartbeats 4000000 in
set_option maxRecDepth 100000 in
theorem kX0_init (l : Launch) (E : xE) (c0 : Nat)  : KT l yX0_init wsX0_init 1 12 1 10 E [(c0, .inr (1, [.null, .int 0, .int 0]))] [] [.ref c0] (QV E (pX0_init E c0)) := by
  refine KT.start (cc := cX0_init) (maxL := 1) (ret := none) (by decide) rfl (Nat.le_of_ble_eq_true rfl) ?_
  intro p e s m below meth c A H hx hb hr hlocks hml hts hown hin hP hR0 hD hap hev hz hA hS ls hl
  have hl : lv_has ls 1 [(0, .ref c0)] := hl
  have hiX0 : ∀ w ∈ wsX00, w ∈ wsX0_init := by decide +kernel
  have hcl9 := hts (.classLink RX0 9 RX4) (by decide +kernel)
  have hf11 := hts (.fieldLink RX0 11 "SignQuorum$Client" "currentRows" "[LSignQuorum$Row;") (by decide +kernel)
  have hf17 := hts (.fieldLink RX0 17 "SignQuorum$Client" "revokedKeys" "I") (by decide +kernel)
  have hf21 := hts (.fieldLink RX0 21 "SignQuorum$Client" "searchedRoles" "I") (by decide +kernel)
  have hoi3 := hts (.methodLink RX0 3 objectInit) (by decide +kernel)
  have hoj := hts (.instanceMethod objectInit) (by decide +kernel)
  refine lv_aload_n hx hb dX0_init_0 rfl (lv_at hl 0 rfl) ?_
  refine W.objInit hx hb hown hoi3 hoj (hts _ (List.mem_of_getElem? (i := 3) rfl)) rfl (by rw [hml]; exact hl.1) rfl dX0_init_1 (Nat.le_of_ble_eq_true rfl) (Nat.le_of_ble_eq_true rfl) ?_
  refine W.eq (g2 := F0 m 4 ls []) rfl ?_
  refine lv_aload_n hx hb dX0_init_4 rfl (lv_at hl 0 rfl) ?_
  refine lv_bipush (v := 10) hx hb dX0_init_5 (by decide) ?_
  refine xnewq (N' := 10) hx hb hown hcl9 hev hP hD hS hA (by decide) (by decide) (by decide +kernel) (Nat.le_of_ble_eq_true rfl) (Nat.le_of_ble_eq_true rfl) dX0_init_7 (fun q1 H hP hD hS => ?_)
  have hP : va_P E.1 vwCl [(c0, .inr (1, [.null, .int 0, .int 0])), (q1, aR E 10 (fun _ => none))] H := hP
  have hD : va_D A [(c0, .inr (1, [.null, .int 0, .int 0])), (q1, aR E 10 (fun _ => none))] := hD
  refine va_putF (D := E.1) (ci := 1) (v := .ref q1) (ty := tyX0 0) (C := RX0) (T := TX0) (N := 3) hx hb hts hiX0 tyX0 tyX0_ok nmX0 hown hev.1 hP hD hS 0 rfl rfl 0 (by decide) hf11 (fun _ h9 => h9) rfl hin rfl (tyX0_ok 0 (by decide)) rfl rfl (Nat.le_of_ble_eq_true rfl) dX0_init_10 (fun H locs hP hD hS => ?_)
  have hP : va_P E.1 vwCl [(c0, .inr (1, [.ref q1, .int 0, .int 0])), (q1, aR E 10 (fun _ => none))] H := hP
  have hD : va_D A [(c0, .inr (1, [.ref q1, .int 0, .int 0])), (q1, aR E 10 (fun _ => none))] := hD
  refine lv_aload_n hx hb dX0_init_13 rfl (lv_at hl 0 rfl) ?_
  refine lv_iconst (v := 0) hx hb dX0_init_14 (by decide) ?_
  refine va_put (D := E.1) (ci := 1) (v := .int 0) (ty := tyX0 1) (C := RX0) (T := TX0) (N := 3) hx hb hts hiX0 tyX0 tyX0_ok nmX0 hown hev.1 hP hD hS 0 rfl rfl 1 (by decide) hf17 (fun _ h9 => h9) rfl (tyX0_ok 1 (by decide)) rfl rfl (Nat.le_of_ble_eq_true rfl) dX0_init_15 (fun H locs hP hD hS => ?_)
  have hP : va_P E.1 vwCl [(c0, .inr (1, [.ref q1, .int 0, .int 0])), (q1, aR E 10 (fun _ => none))] H := hP
  have hD : va_D A [(c0, .inr (1, [.ref q1, .int 0, .int 0])), (q1, aR E 10 (fun _ => none))] := hD
  refine lv_aload_n hx hb dX0_init_18 rfl (lv_at hl 0 rfl) ?_
  refine lv_iconst (v := 0) hx hb dX0_init_19 (by decide) ?_
  refine va_put (D := E.1) (ci := 1) (v := .int 0) (ty := tyX0 2) (C := RX0) (T := TX0) (N := 3) hx hb hts hiX0 tyX0 tyX0_ok nmX0 hown hev.1 hP hD hS 0 rfl rfl 2 (by decide) hf21 (fun _ h9 => h9) rfl (tyX0_ok 2 (by decide)) rfl rfl (Nat.le_of_ble_eq_true rfl) dX0_init_20 (fun H locs hP hD hS => ?_)
  have hP : va_P E.1 vwCl [(c0, .inr (1, [.ref q1, .int 0, .int 0])), (q1, aR E 10 (fun _ => none))] H := hP
  have hD : va_D A [(c0, .inr (1, [.ref q1, .int 0, .int 0])), (q1, aR E 10 (fun _ => none))] := hD
  refine xrv hx hb hr hlocks hP hD hS ⟨q1, rfl, ?_⟩ dX0_init_23
  trivial

abbrev pX0_currentOf (E : xE) (c0 : Nat) (cr : Nat) (rev : Int32) (sea : Int32) (ci : Nat → Option Nat) (ra : Nat → Nat) (x : Int32) (r : Option Nat) (w : va_W) : Prop := w = [] ∧ ((∃ j, j < 10 ∧ x = nI j ∧ r = (ci j).map ra) ∨ (¬ isN x 10 ∧ r = none))
set_option maxHeartbeats 4000000 in
set_option maxRecDepth 100000 in
theorem kX0_currentOf (l : Launch) (E : xE) (c0 : Nat) (cr : Nat) (rev : Int32) (sea : Int32) (ci : Nat → Option Nat) (ra : Nat → Nat) (x : Int32)  : KT l yX0_currentOf wsX0_currentOf 1 20 0 0 E [] [(c0, .inr (1, [.ref cr, .int rev, .int sea])), (cr, aR E 10 (fun j => (ci j).map ra))] [.ref c0, .int x] (QR E (pX0_currentOf E c0 cr rev sea ci ra x)) := by
  refine KT.start (cc := cX0_currentOf) (maxL := 2) (ret := (some (.object "SignQuorum$Row"))) (by decide) rfl (Nat.le_of_ble_eq_true rfl) ?_
  intro p e s m below meth c A H hx hb hr hlocks hml hts hown hin hP hR0 hD hap hev hz hA hS ls hl
  have hl : lv_has ls 2 [(0, .ref c0), (1, .int x)] := hl
  have hiX0 : ∀ w ∈ wsX00, w ∈ wsX0_currentOf := by decide +kernel
  have hf11 := hts (.fieldLink RX0 11 "SignQuorum$Client" "currentRows" "[LSignQuorum$Row;") (by decide +kernel)
  have hiniX7 := hts (.initialized RX7) (by decide +kernel)
  have hstX7_isRole := hts (.static yX7_isRole) (by decide +kernel)
  refine lv_iload_n hx hb dX0_currentOf_0 rfl (lv_at hl 1 rfl) ?_
  have hP := hP.sub (ws' := [] ++ []) [] rfl
  have hD := hD.sub (ws' := [] ++ []) [] (by decide) rfl
  refine xci (va_runSN (As := [.int x]) (rest := []) ⟨hx, hb, hml, hown, hts⟩ (kX7_isRole l E x  H.size) ⟨va_cnB 1 hts gX0_currentOf_X7_isRole_n24 rfl rfl rfl (xNM5 hev.2.1) hiniX7 (by decide +kernel) ⟨Nat.le_of_ble_eq_true rfl, Nat.le_of_ble_eq_true rfl⟩, hstX7_isRole, trivial⟩ ⟨CP.blind, (xpre hev hz hA hP hD hS hR0 hap [] rfl)⟩ rfl rfl hl.1 rfl (lv_room (Nat.le_of_ble_eq_true rfl)) dX0_currentOf_1 ⟨Nat.le_of_ble_eq_true rfl, Nat.le_of_ble_eq_true rfl⟩) hP hD hS hA (fun r1 w2 H locs h3 hP hD hS => ?_)
  obtain ⟨rfl, rfl, h3⟩ := h3
  try dsimp only at h3
  have hP : va_P E.1 vwCl [] H := hP
  have hD : va_D A [] := hD
  refine lv_if_eq (tgt := 16) hx hb dX0_currentOf_4 (by decide) (fun c4 => ?_) (fun c4 => ?_)
  · skip
    have kc4 := b1_0.mp c4
    refine lv_null hx hb dX0_currentOf_16 ?_
    refine xrr (v := none) hx hb hr hlocks hP hD hS ⟨rfl, ?_⟩ dX0_currentOf_17
    exact Or.inr ⟨kc4, rfl⟩
  · skip
    have kc4 := b1_n.mp c4
    refine lv_aload_n hx hb dX0_currentOf_7 rfl (lv_at hl 0 rfl) ?_
    refine va_get (D := E.1) (ci := 1) (v := .ref cr) (C := RX0) (T := TX0) (N := 3) hx hb hts hiX0 hown hev.1 (xro hR0 hap hS) 0 rfl rfl 0 (by decide) hf11 (fun _ h9 => h9) rfl dX0_currentOf_8 ?_
    refine lv_iload_n hx hb dX0_currentOf_11 rfl (lv_at hl 1 rfl) ?_
    refine va_aldq hx hb hev.1 (xro hR0 hap hS) 1 4 rfl rfl (by obtain ⟨j, hj, rfl⟩ := kc4; exact vp_in_nI hj (by decide)) dX0_currentOf_12 ?_
    refine lv_goto (tgt := 17) hx hb dX0_currentOf_13 (by decide) ?_
    refine xrr (v := ((fun j => (ci j).map ra) x.toNatClampNeg)) hx hb hr hlocks hP hD hS ⟨rfl, ?_⟩ dX0_currentOf_17
    obtain ⟨j, hj, rfl⟩ := kc4
    exact Or.inl ⟨j, hj, rfl, by rw [nI_clamp (by omega)]⟩

abbrev pX0_currentOfJ (E : xE) (c0 : Nat) (cr : Nat) (rev : Int32) (sea : Int32) (ci : Nat → Option Nat) (ra : Nat → Nat) (j : Nat) (r : Option Nat) (w : va_W) : Prop := w = [] ∧ r = (ci j).map ra ∧ (True)
set_option maxHeartbeats 4000000 in
set_option maxRecDepth 100000 in
theorem kX0_currentOfJ (l : Launch) (E : xE) (c0 : Nat) (cr : Nat) (rev : Int32) (sea : Int32) (ci : Nat → Option Nat) (ra : Nat → Nat) (j : Nat) (hj : j < 10) : KT l yX0_currentOf wsX0_currentOf 1 20 0 0 E [] [(c0, .inr (1, [.ref cr, .int rev, .int sea])), (cr, aR E 10 (fun j => (ci j).map ra))] [.ref c0, .int (nI j)] (QR E (pX0_currentOfJ E c0 cr rev sea ci ra j)) := by
  refine KT.start (cc := cX0_currentOf) (maxL := 2) (ret := (some (.object "SignQuorum$Row"))) (by decide) rfl (Nat.le_of_ble_eq_true rfl) ?_
  intro p e s m below meth c A H hx hb hr hlocks hml hts hown hin hP hR0 hD hap hev hz hA hS ls hl
  have hl : lv_has ls 2 [(0, .ref c0), (1, .int (nI j))] := hl
  have hiX0 : ∀ w ∈ wsX00, w ∈ wsX0_currentOf := by decide +kernel
  have hf11 := hts (.fieldLink RX0 11 "SignQuorum$Client" "currentRows" "[LSignQuorum$Row;") (by decide +kernel)
  have hiniX7 := hts (.initialized RX7) (by decide +kernel)
  have hstX7_isRole := hts (.static yX7_isRole) (by decide +kernel)
  refine lv_iload_n hx hb dX0_currentOf_0 rfl (lv_at hl 1 rfl) ?_
  have hP := hP.sub (ws' := [] ++ []) [] rfl
  have hD := hD.sub (ws' := [] ++ []) [] (by decide) rfl
  refine xci (va_runSN (As := [.int (nI j)]) (rest := []) ⟨hx, hb, hml, hown, hts⟩ (kX7_isRole l E (nI j)  H.size) ⟨va_cnB 1 hts gX0_currentOf_X7_isRole_n24 rfl rfl rfl (xNM5 hev.2.1) hiniX7 (by decide +kernel) ⟨Nat.le_of_ble_eq_true rfl, Nat.le_of_ble_eq_true rfl⟩, hstX7_isRole, trivial⟩ ⟨CP.blind, (xpre hev hz hA hP hD hS hR0 hap [] rfl)⟩ rfl rfl hl.1 rfl (lv_room (Nat.le_of_ble_eq_true rfl)) dX0_currentOf_1 ⟨Nat.le_of_ble_eq_true rfl, Nat.le_of_ble_eq_true rfl⟩) hP hD hS hA (fun r1 w2 H locs h3 hP hD hS => ?_)
  obtain ⟨rfl, rfl, h3⟩ := h3
  try dsimp only at h3
  have hP : va_P E.1 vwCl [] H := hP
  have hD : va_D A [] := hD
  refine lv_if_eq (tgt := 16) hx hb dX0_currentOf_4 (by decide) (fun c4 => absurd c4 (b1_n.mpr (⟨j, hj, rfl⟩))) (fun c4 => ?_)
  refine lv_aload_n hx hb dX0_currentOf_7 rfl (lv_at hl 0 rfl) ?_
  refine va_get (D := E.1) (ci := 1) (v := .ref cr) (C := RX0) (T := TX0) (N := 3) hx hb hts hiX0 hown hev.1 (xro hR0 hap hS) 0 rfl rfl 0 (by decide) hf11 (fun _ h9 => h9) rfl dX0_currentOf_8 ?_
  refine lv_iload_n hx hb dX0_currentOf_11 rfl (lv_at hl 1 rfl) ?_
  refine xaldq (k := (j)) hx hb hev.1 (xro hR0 hap hS) 1 4 rfl rfl (by omega) (by decide) dX0_currentOf_12 ?_
  refine lv_goto (tgt := 17) hx hb dX0_currentOf_13 (by decide) ?_
  refine xrr (v := ((fun j => (ci j).map ra) j)) hx hb hr hlocks hP hD hS ⟨rfl, ?_, ?_⟩ dX0_currentOf_17
  · rfl
  · trivial

abbrev pX0_learnRevoked (E : xE) (c0 : Nat) (cr : Nat) (rev : Int32) (sea : Int32) (k : Int32) (r : Int32) (w : va_W) : Prop := ∃ (rev2 : Int32), w = [(c0, .inr (1, [.ref cr, .int rev2, .int sea]))] ∧ r = b1 ((rev &&& (1 <<< (k &&& 31))) = 0) ∧ (((rev &&& (1 <<< (k &&& 31))) = 0 → rev2 = rev ||| (1 <<< (k &&& 31))) ∧ (¬ (rev &&& (1 <<< (k &&& 31))) = 0 → rev2 = rev))
set_option maxHeartbeats 4000000 in
set_option maxRecDepth 100000 in
theorem kX0_learnRevoked (l : Launch) (E : xE) (c0 : Nat) (cr : Nat) (rev : Int32) (sea : Int32) (k : Int32)  : KT l yX0_learnRevoked wsX0_learnRevoked 0 0 0 0 E [(c0, .inr (1, [.ref cr, .int rev, .int sea]))] [] [.ref c0, .int k] (QI E (pX0_learnRevoked E c0 cr rev sea k)) := by
  refine KT.start (cc := cX0_learnRevoked) (maxL := 3) (ret := (some .boolean)) (by decide) rfl (Nat.le_of_ble_eq_true rfl) ?_
  intro p e s m below meth c A H hx hb hr hlocks hml hts hown hin hP hR0 hD hap hev hz hA hS ls hl
  have hl : lv_has ls 3 [(0, .ref c0), (1, .int k)] := hl
  have hiX0 : ∀ w ∈ wsX00, w ∈ wsX0_learnRevoked := by decide +kernel
  have hf17 := hts (.fieldLink RX0 17 "SignQuorum$Client" "revokedKeys" "I") (by decide +kernel)
  refine lv_iconst (v := 1) hx hb dX0_learnRevoked_0 (by decide) ?_
  refine lv_iload_n hx hb dX0_learnRevoked_1 rfl (lv_at hl 1 rfl) ?_
  refine lv_ishl hx hb dX0_learnRevoked_2 ?_
  refine lv_istore_n (lv' := [(2, .int (1 <<< (k &&& 31))), (0, .ref c0), (1, .int k)]) hx hb dX0_learnRevoked_3 rfl hl (by decide) rfl (fun ls hl => ?_)
  refine lv_aload_n hx hb dX0_learnRevoked_4 rfl (lv_at hl 1 rfl) ?_
  refine va_get (D := E.1) (ci := 1) (v := .int rev) (C := RX0) (T := TX0) (N := 3) hx hb hts hiX0 hown hev.1 hP 0 rfl rfl 1 (by decide) hf17 (fun _ h9 => h9) rfl dX0_learnRevoked_5 ?_
  refine lv_iload_n hx hb dX0_learnRevoked_8 rfl (lv_at hl 0 rfl) ?_
  refine lv_iand hx hb dX0_learnRevoked_9 ?_
  refine lv_if_eq (tgt := 15) hx hb dX0_learnRevoked_10 (by decide) (fun c1 => ?_) (fun c1 => ?_)
  · skip
    refine lv_aload_n hx hb dX0_learnRevoked_15 rfl (lv_at hl 1 rfl) ?_
    refine lv_dup hx hb dX0_learnRevoked_16 rfl ?_
    refine va_get (D := E.1) (ci := 1) (v := .int rev) (C := RX0) (T := TX0) (N := 3) hx hb hts hiX0 hown hev.1 hP 0 rfl rfl 1 (by decide) hf17 (fun _ h9 => h9) rfl dX0_learnRevoked_17 ?_
    refine lv_iload_n hx hb dX0_learnRevoked_20 rfl (lv_at hl 0 rfl) ?_
    refine lv_ior hx hb dX0_learnRevoked_21 ?_
    refine va_put (D := E.1) (ci := 1) (v := .int (rev ||| (1 <<< (k &&& 31)))) (ty := tyX0 1) (C := RX0) (T := TX0) (N := 3) hx hb hts hiX0 tyX0 tyX0_ok nmX0 hown hev.1 hP hD hS 0 rfl rfl 1 (by decide) hf17 (fun _ h9 => h9) rfl (tyX0_ok 1 (by decide)) rfl rfl (Nat.le_of_ble_eq_true rfl) dX0_learnRevoked_22 (fun H locs hP hD hS => ?_)
    have hP : va_P E.1 vwCl [(c0, .inr (1, [.ref cr, .int (rev ||| (1 <<< (k &&& 31))), .int sea]))] H := hP
    have hD : va_D A [(c0, .inr (1, [.ref cr, .int (rev ||| (1 <<< (k &&& 31))), .int sea]))] := hD
    refine lv_iconst (v := 1) hx hb dX0_learnRevoked_25 (by decide) ?_
    refine xrz hx hb hr hlocks (by first | rfl | decide | exact b1_narrow _) hP hD hS ⟨(rev ||| (1 <<< (k &&& 31))), rfl, ?_, ?_⟩ dX0_learnRevoked_26
    · exact (b1_t c1).symm
    · exact ⟨fun _ => by subst_vars; rfl, fun h9 => absurd c1 h9⟩
  · skip
    refine lv_iconst (v := 0) hx hb dX0_learnRevoked_13 (by decide) ?_
    refine xrz hx hb hr hlocks (by first | rfl | decide | exact b1_narrow _) hP hD hS ⟨rev, rfl, ?_, ?_⟩ dX0_learnRevoked_14
    · exact (b1_f c1).symm
    · exact ⟨fun h9 => absurd h9 c1, fun _ => rfl⟩

abbrev pX0_isSearched (E : xE) (c0 : Nat) (cr : Nat) (rev : Int32) (sea : Int32) (x : Int32) (r : Int32) (w : va_W) : Prop := w = [] ∧ r = b1 (¬ (sea &&& (1 <<< (x &&& 31))) = 0) ∧ (True)
set_option maxHeartbeats 4000000 in
set_option maxRecDepth 100000 in
theorem kX0_isSearched (l : Launch) (E : xE) (c0 : Nat) (cr : Nat) (rev : Int32) (sea : Int32) (x : Int32)  : KT l yX0_isSearched wsX0_isSearched 0 0 0 0 E [] [(c0, .inr (1, [.ref cr, .int rev, .int sea]))] [.ref c0, .int x] (QI E (pX0_isSearched E c0 cr rev sea x)) := by
  refine KT.start (cc := cX0_isSearched) (maxL := 2) (ret := (some .boolean)) (by decide) rfl (Nat.le_of_ble_eq_true rfl) ?_
  intro p e s m below meth c A H hx hb hr hlocks hml hts hown hin hP hR0 hD hap hev hz hA hS ls hl
  have hl : lv_has ls 2 [(0, .ref c0), (1, .int x)] := hl
  have hiX0 : ∀ w ∈ wsX00, w ∈ wsX0_isSearched := by decide +kernel
  have hf21 := hts (.fieldLink RX0 21 "SignQuorum$Client" "searchedRoles" "I") (by decide +kernel)
  refine lv_aload_n hx hb dX0_isSearched_0 rfl (lv_at hl 0 rfl) ?_
  refine va_get (D := E.1) (ci := 1) (v := .int sea) (C := RX0) (T := TX0) (N := 3) hx hb hts hiX0 hown hev.1 (xro hR0 hap hS) 0 rfl rfl 2 (by decide) hf21 (fun _ h9 => h9) rfl dX0_isSearched_1 ?_
  refine lv_iconst (v := 1) hx hb dX0_isSearched_4 (by decide) ?_
  refine lv_iload_n hx hb dX0_isSearched_5 rfl (lv_at hl 1 rfl) ?_
  refine lv_ishl hx hb dX0_isSearched_6 ?_
  refine lv_iand hx hb dX0_isSearched_7 ?_
  refine lv_if_eq (tgt := 15) hx hb dX0_isSearched_8 (by decide) (fun c1 => ?_) (fun c1 => ?_)
  · skip
    refine lv_iconst (v := 0) hx hb dX0_isSearched_15 (by decide) ?_
    refine xrz hx hb hr hlocks (by first | rfl | decide | exact b1_narrow _) hP hD hS ⟨rfl, ?_, ?_⟩ dX0_isSearched_16
    · exact (b1_f (fun h9 => h9 c1)).symm
    · trivial
  · skip
    refine lv_iconst (v := 1) hx hb dX0_isSearched_11 (by decide) ?_
    refine lv_goto (tgt := 16) hx hb dX0_isSearched_12 (by decide) ?_
    refine xrz hx hb hr hlocks (by first | rfl | decide | exact b1_narrow _) hP hD hS ⟨rfl, ?_, ?_⟩ dX0_isSearched_16
    · exact (b1_t c1).symm
    · trivial

abbrev pX0_hasQuorum (E : xE) (rev : Int32) (un : Int32) (N : Nat) (ra : Nat → Nat) (pr : Nat → RowP) (i : Nat) (k : Nat) (r : Int32) (w : va_W) : Prop := w = [] ∧ r = b1 (qM rev un (pr i) (pr k)) ∧ (True)
set_option maxHeartbeats 4000000 in
set_option maxRecDepth 100000 in
theorem kX0_hasQuorum (l : Launch) (E : xE) (rev : Int32) (un : Int32) (N : Nat) (ra : Nat → Nat) (pr : Nat → RowP) (i : Nat) (k : Nat) (hok : ∀ i, i < N → rOk (pr i)) (hi : i < N) (hk : k < N) : KT l yX0_hasQuorum wsX0_hasQuorum 2 42 0 0 E [] ([] ++ rowsW E N ra pr) [.ref (ra i), .ref (ra k), .int (un &&& (rev ^^^ (-1)))] (QI E (pX0_hasQuorum E rev un N ra pr i k)) := by
  refine KT.start (cc := cX0_hasQuorum) (maxL := 3) (ret := (some .boolean)) (by decide) rfl (Nat.le_of_ble_eq_true rfl) ?_
  intro p e s m below meth c A H hx hb hr hlocks hml hts hown hin hP hR0 hD hap hev hz hA hS ls hl
  have hl : lv_has ls 3 [(0, .ref (ra i)), (1, .ref (ra k)), (2, .int (un &&& (rev ^^^ (-1))))] := hl
  have hiX4 : ∀ w ∈ wsX40, w ∈ wsX0_hasQuorum := by decide +kernel
  have hap := xmoreA (L := [(ra i, .inr (5, [.int ((pr i).2.1 0), .int (nI ((pr i).1 17)), .int ((pr i).2.1 1), .long ((pr i).2.2.1), .ref ((pr i).1 0), .int (nI ((pr i).1 12)), .ref ((pr i).1 1), .ref ((pr i).1 2), .ref ((pr i).1 3), .ref ((pr i).1 4), .int (nI ((pr i).1 13)), .int (nI ((pr i).1 14)), .int ((pr i).2.1 2)])), ((pr i).1 0, aB E 16 ((pr i).2.2.2 0)), ((pr i).1 1, .inr (4, [.ref ((pr i).1 5), .ref ((pr i).1 6)])), ((pr i).1 5, aI E 10 ((pr i).2.2.2 1)), ((pr i).1 6, aI E 10 ((pr i).2.2.2 2)), ((pr i).1 2, .inr (7, [.ref ((pr i).1 7), .ref ((pr i).1 8), .int (nI ((pr i).1 15))])), ((pr i).1 7, aI E 7 ((pr i).2.2.2 3)), ((pr i).1 8, aI E 7 ((pr i).2.2.2 4)), ((pr i).1 3, .inr (2, [.ref ((pr i).1 9), .ref ((pr i).1 10), .ref ((pr i).1 11), .int (nI ((pr i).1 16))])), ((pr i).1 9, aI E 6 ((pr i).2.2.2 5)), ((pr i).1 10, aI E 6 ((pr i).2.2.2 6)), ((pr i).1 11, aZ E 6 ((pr i).2.2.2 7)), ((pr i).1 4, aI E 6 ((pr i).2.2.2 8))]) hap (fun q9 h9 => List.mem_append_right _ (rowsW_mem (E := E) (ra := ra) (pr := pr) (hi) q9 h9))
  have hR0 := xmore (L := [(ra i, .inr (5, [.int ((pr i).2.1 0), .int (nI ((pr i).1 17)), .int ((pr i).2.1 1), .long ((pr i).2.2.1), .ref ((pr i).1 0), .int (nI ((pr i).1 12)), .ref ((pr i).1 1), .ref ((pr i).1 2), .ref ((pr i).1 3), .ref ((pr i).1 4), .int (nI ((pr i).1 13)), .int (nI ((pr i).1 14)), .int ((pr i).2.1 2)])), ((pr i).1 0, aB E 16 ((pr i).2.2.2 0)), ((pr i).1 1, .inr (4, [.ref ((pr i).1 5), .ref ((pr i).1 6)])), ((pr i).1 5, aI E 10 ((pr i).2.2.2 1)), ((pr i).1 6, aI E 10 ((pr i).2.2.2 2)), ((pr i).1 2, .inr (7, [.ref ((pr i).1 7), .ref ((pr i).1 8), .int (nI ((pr i).1 15))])), ((pr i).1 7, aI E 7 ((pr i).2.2.2 3)), ((pr i).1 8, aI E 7 ((pr i).2.2.2 4)), ((pr i).1 3, .inr (2, [.ref ((pr i).1 9), .ref ((pr i).1 10), .ref ((pr i).1 11), .int (nI ((pr i).1 16))])), ((pr i).1 9, aI E 6 ((pr i).2.2.2 5)), ((pr i).1 10, aI E 6 ((pr i).2.2.2 6)), ((pr i).1 11, aZ E 6 ((pr i).2.2.2 7)), ((pr i).1 4, aI E 6 ((pr i).2.2.2 8))]) hR0 (fun q9 h9 => List.mem_append_right _ (rowsW_mem (E := E) (ra := ra) (pr := pr) (hi) q9 h9))
  have hap : ∀ q ∈ ([(ra i, .inr (5, [.int ((pr i).2.1 0), .int (nI ((pr i).1 17)), .int ((pr i).2.1 1), .long ((pr i).2.2.1), .ref ((pr i).1 0), .int (nI ((pr i).1 12)), .ref ((pr i).1 1), .ref ((pr i).1 2), .ref ((pr i).1 3), .ref ((pr i).1 4), .int (nI ((pr i).1 13)), .int (nI ((pr i).1 14)), .int ((pr i).2.1 2)])), ((pr i).1 0, aB E 16 ((pr i).2.2.2 0)), ((pr i).1 1, .inr (4, [.ref ((pr i).1 5), .ref ((pr i).1 6)])), ((pr i).1 5, aI E 10 ((pr i).2.2.2 1)), ((pr i).1 6, aI E 10 ((pr i).2.2.2 2)), ((pr i).1 2, .inr (7, [.ref ((pr i).1 7), .ref ((pr i).1 8), .int (nI ((pr i).1 15))])), ((pr i).1 7, aI E 7 ((pr i).2.2.2 3)), ((pr i).1 8, aI E 7 ((pr i).2.2.2 4)), ((pr i).1 3, .inr (2, [.ref ((pr i).1 9), .ref ((pr i).1 10), .ref ((pr i).1 11), .int (nI ((pr i).1 16))])), ((pr i).1 9, aI E 6 ((pr i).2.2.2 5)), ((pr i).1 10, aI E 6 ((pr i).2.2.2 6)), ((pr i).1 11, aZ E 6 ((pr i).2.2.2 7)), ((pr i).1 4, aI E 6 ((pr i).2.2.2 8))] ++ rowsW E N ra pr), ¬ A q.1 := hap
  have hR0 : va_P E.1 vwCl ([(ra i, .inr (5, [.int ((pr i).2.1 0), .int (nI ((pr i).1 17)), .int ((pr i).2.1 1), .long ((pr i).2.2.1), .ref ((pr i).1 0), .int (nI ((pr i).1 12)), .ref ((pr i).1 1), .ref ((pr i).1 2), .ref ((pr i).1 3), .ref ((pr i).1 4), .int (nI ((pr i).1 13)), .int (nI ((pr i).1 14)), .int ((pr i).2.1 2)])), ((pr i).1 0, aB E 16 ((pr i).2.2.2 0)), ((pr i).1 1, .inr (4, [.ref ((pr i).1 5), .ref ((pr i).1 6)])), ((pr i).1 5, aI E 10 ((pr i).2.2.2 1)), ((pr i).1 6, aI E 10 ((pr i).2.2.2 2)), ((pr i).1 2, .inr (7, [.ref ((pr i).1 7), .ref ((pr i).1 8), .int (nI ((pr i).1 15))])), ((pr i).1 7, aI E 7 ((pr i).2.2.2 3)), ((pr i).1 8, aI E 7 ((pr i).2.2.2 4)), ((pr i).1 3, .inr (2, [.ref ((pr i).1 9), .ref ((pr i).1 10), .ref ((pr i).1 11), .int (nI ((pr i).1 16))])), ((pr i).1 9, aI E 6 ((pr i).2.2.2 5)), ((pr i).1 10, aI E 6 ((pr i).2.2.2 6)), ((pr i).1 11, aZ E 6 ((pr i).2.2.2 7)), ((pr i).1 4, aI E 6 ((pr i).2.2.2 8))] ++ rowsW E N ra pr) s.heap := hR0
  obtain ⟨o12i, o13i, o14i, o15i, o16i, o17i⟩ := hok i (hi)
  have hap := xmoreA (L := [(ra k, .inr (5, [.int ((pr k).2.1 0), .int (nI ((pr k).1 17)), .int ((pr k).2.1 1), .long ((pr k).2.2.1), .ref ((pr k).1 0), .int (nI ((pr k).1 12)), .ref ((pr k).1 1), .ref ((pr k).1 2), .ref ((pr k).1 3), .ref ((pr k).1 4), .int (nI ((pr k).1 13)), .int (nI ((pr k).1 14)), .int ((pr k).2.1 2)])), ((pr k).1 0, aB E 16 ((pr k).2.2.2 0)), ((pr k).1 1, .inr (4, [.ref ((pr k).1 5), .ref ((pr k).1 6)])), ((pr k).1 5, aI E 10 ((pr k).2.2.2 1)), ((pr k).1 6, aI E 10 ((pr k).2.2.2 2)), ((pr k).1 2, .inr (7, [.ref ((pr k).1 7), .ref ((pr k).1 8), .int (nI ((pr k).1 15))])), ((pr k).1 7, aI E 7 ((pr k).2.2.2 3)), ((pr k).1 8, aI E 7 ((pr k).2.2.2 4)), ((pr k).1 3, .inr (2, [.ref ((pr k).1 9), .ref ((pr k).1 10), .ref ((pr k).1 11), .int (nI ((pr k).1 16))])), ((pr k).1 9, aI E 6 ((pr k).2.2.2 5)), ((pr k).1 10, aI E 6 ((pr k).2.2.2 6)), ((pr k).1 11, aZ E 6 ((pr k).2.2.2 7)), ((pr k).1 4, aI E 6 ((pr k).2.2.2 8))]) hap (fun q9 h9 => List.mem_append_right _ (rowsW_mem (E := E) (ra := ra) (pr := pr) (hk) q9 h9))
  have hR0 := xmore (L := [(ra k, .inr (5, [.int ((pr k).2.1 0), .int (nI ((pr k).1 17)), .int ((pr k).2.1 1), .long ((pr k).2.2.1), .ref ((pr k).1 0), .int (nI ((pr k).1 12)), .ref ((pr k).1 1), .ref ((pr k).1 2), .ref ((pr k).1 3), .ref ((pr k).1 4), .int (nI ((pr k).1 13)), .int (nI ((pr k).1 14)), .int ((pr k).2.1 2)])), ((pr k).1 0, aB E 16 ((pr k).2.2.2 0)), ((pr k).1 1, .inr (4, [.ref ((pr k).1 5), .ref ((pr k).1 6)])), ((pr k).1 5, aI E 10 ((pr k).2.2.2 1)), ((pr k).1 6, aI E 10 ((pr k).2.2.2 2)), ((pr k).1 2, .inr (7, [.ref ((pr k).1 7), .ref ((pr k).1 8), .int (nI ((pr k).1 15))])), ((pr k).1 7, aI E 7 ((pr k).2.2.2 3)), ((pr k).1 8, aI E 7 ((pr k).2.2.2 4)), ((pr k).1 3, .inr (2, [.ref ((pr k).1 9), .ref ((pr k).1 10), .ref ((pr k).1 11), .int (nI ((pr k).1 16))])), ((pr k).1 9, aI E 6 ((pr k).2.2.2 5)), ((pr k).1 10, aI E 6 ((pr k).2.2.2 6)), ((pr k).1 11, aZ E 6 ((pr k).2.2.2 7)), ((pr k).1 4, aI E 6 ((pr k).2.2.2 8))]) hR0 (fun q9 h9 => List.mem_append_right _ (rowsW_mem (E := E) (ra := ra) (pr := pr) (hk) q9 h9))
  have hap : ∀ q ∈ ([(ra k, .inr (5, [.int ((pr k).2.1 0), .int (nI ((pr k).1 17)), .int ((pr k).2.1 1), .long ((pr k).2.2.1), .ref ((pr k).1 0), .int (nI ((pr k).1 12)), .ref ((pr k).1 1), .ref ((pr k).1 2), .ref ((pr k).1 3), .ref ((pr k).1 4), .int (nI ((pr k).1 13)), .int (nI ((pr k).1 14)), .int ((pr k).2.1 2)])), ((pr k).1 0, aB E 16 ((pr k).2.2.2 0)), ((pr k).1 1, .inr (4, [.ref ((pr k).1 5), .ref ((pr k).1 6)])), ((pr k).1 5, aI E 10 ((pr k).2.2.2 1)), ((pr k).1 6, aI E 10 ((pr k).2.2.2 2)), ((pr k).1 2, .inr (7, [.ref ((pr k).1 7), .ref ((pr k).1 8), .int (nI ((pr k).1 15))])), ((pr k).1 7, aI E 7 ((pr k).2.2.2 3)), ((pr k).1 8, aI E 7 ((pr k).2.2.2 4)), ((pr k).1 3, .inr (2, [.ref ((pr k).1 9), .ref ((pr k).1 10), .ref ((pr k).1 11), .int (nI ((pr k).1 16))])), ((pr k).1 9, aI E 6 ((pr k).2.2.2 5)), ((pr k).1 10, aI E 6 ((pr k).2.2.2 6)), ((pr k).1 11, aZ E 6 ((pr k).2.2.2 7)), ((pr k).1 4, aI E 6 ((pr k).2.2.2 8)), (ra i, .inr (5, [.int ((pr i).2.1 0), .int (nI ((pr i).1 17)), .int ((pr i).2.1 1), .long ((pr i).2.2.1), .ref ((pr i).1 0), .int (nI ((pr i).1 12)), .ref ((pr i).1 1), .ref ((pr i).1 2), .ref ((pr i).1 3), .ref ((pr i).1 4), .int (nI ((pr i).1 13)), .int (nI ((pr i).1 14)), .int ((pr i).2.1 2)])), ((pr i).1 0, aB E 16 ((pr i).2.2.2 0)), ((pr i).1 1, .inr (4, [.ref ((pr i).1 5), .ref ((pr i).1 6)])), ((pr i).1 5, aI E 10 ((pr i).2.2.2 1)), ((pr i).1 6, aI E 10 ((pr i).2.2.2 2)), ((pr i).1 2, .inr (7, [.ref ((pr i).1 7), .ref ((pr i).1 8), .int (nI ((pr i).1 15))])), ((pr i).1 7, aI E 7 ((pr i).2.2.2 3)), ((pr i).1 8, aI E 7 ((pr i).2.2.2 4)), ((pr i).1 3, .inr (2, [.ref ((pr i).1 9), .ref ((pr i).1 10), .ref ((pr i).1 11), .int (nI ((pr i).1 16))])), ((pr i).1 9, aI E 6 ((pr i).2.2.2 5)), ((pr i).1 10, aI E 6 ((pr i).2.2.2 6)), ((pr i).1 11, aZ E 6 ((pr i).2.2.2 7)), ((pr i).1 4, aI E 6 ((pr i).2.2.2 8))] ++ rowsW E N ra pr), ¬ A q.1 := hap
  have hR0 : va_P E.1 vwCl ([(ra k, .inr (5, [.int ((pr k).2.1 0), .int (nI ((pr k).1 17)), .int ((pr k).2.1 1), .long ((pr k).2.2.1), .ref ((pr k).1 0), .int (nI ((pr k).1 12)), .ref ((pr k).1 1), .ref ((pr k).1 2), .ref ((pr k).1 3), .ref ((pr k).1 4), .int (nI ((pr k).1 13)), .int (nI ((pr k).1 14)), .int ((pr k).2.1 2)])), ((pr k).1 0, aB E 16 ((pr k).2.2.2 0)), ((pr k).1 1, .inr (4, [.ref ((pr k).1 5), .ref ((pr k).1 6)])), ((pr k).1 5, aI E 10 ((pr k).2.2.2 1)), ((pr k).1 6, aI E 10 ((pr k).2.2.2 2)), ((pr k).1 2, .inr (7, [.ref ((pr k).1 7), .ref ((pr k).1 8), .int (nI ((pr k).1 15))])), ((pr k).1 7, aI E 7 ((pr k).2.2.2 3)), ((pr k).1 8, aI E 7 ((pr k).2.2.2 4)), ((pr k).1 3, .inr (2, [.ref ((pr k).1 9), .ref ((pr k).1 10), .ref ((pr k).1 11), .int (nI ((pr k).1 16))])), ((pr k).1 9, aI E 6 ((pr k).2.2.2 5)), ((pr k).1 10, aI E 6 ((pr k).2.2.2 6)), ((pr k).1 11, aZ E 6 ((pr k).2.2.2 7)), ((pr k).1 4, aI E 6 ((pr k).2.2.2 8)), (ra i, .inr (5, [.int ((pr i).2.1 0), .int (nI ((pr i).1 17)), .int ((pr i).2.1 1), .long ((pr i).2.2.1), .ref ((pr i).1 0), .int (nI ((pr i).1 12)), .ref ((pr i).1 1), .ref ((pr i).1 2), .ref ((pr i).1 3), .ref ((pr i).1 4), .int (nI ((pr i).1 13)), .int (nI ((pr i).1 14)), .int ((pr i).2.1 2)])), ((pr i).1 0, aB E 16 ((pr i).2.2.2 0)), ((pr i).1 1, .inr (4, [.ref ((pr i).1 5), .ref ((pr i).1 6)])), ((pr i).1 5, aI E 10 ((pr i).2.2.2 1)), ((pr i).1 6, aI E 10 ((pr i).2.2.2 2)), ((pr i).1 2, .inr (7, [.ref ((pr i).1 7), .ref ((pr i).1 8), .int (nI ((pr i).1 15))])), ((pr i).1 7, aI E 7 ((pr i).2.2.2 3)), ((pr i).1 8, aI E 7 ((pr i).2.2.2 4)), ((pr i).1 3, .inr (2, [.ref ((pr i).1 9), .ref ((pr i).1 10), .ref ((pr i).1 11), .int (nI ((pr i).1 16))])), ((pr i).1 9, aI E 6 ((pr i).2.2.2 5)), ((pr i).1 10, aI E 6 ((pr i).2.2.2 6)), ((pr i).1 11, aZ E 6 ((pr i).2.2.2 7)), ((pr i).1 4, aI E 6 ((pr i).2.2.2 8))] ++ rowsW E N ra pr) s.heap := hR0
  have hltk : k < N := hk
  obtain ⟨o12k, o13k, o14k, o15k, o16k, o17k⟩ := hok k (hk)
  refine lv_aload_n hx hb dX0_hasQuorum_0 rfl (lv_at hl 1 rfl) ?_
  refine va_getN (D := E.1) (ci := 5) (v := .ref ((pr k).1 1)) (C := RX4) (T := TX4) (N := 13) hx hb hts hiX4 hown hev.1 (xro hR0 hap hS) 0 rfl rfl 6 (by decide) (xNF12 hev.2.1) (fun _ h9 => h9) rfl dX0_hasQuorum_1 ?_
  refine lv_aload_n hx hb dX0_hasQuorum_4 rfl (lv_at hl 0 rfl) ?_
  refine va_getN (D := E.1) (ci := 5) (v := .int ((pr i).2.1 2)) (C := RX4) (T := TX4) (N := 13) hx hb hts hiX4 hown hev.1 (xro hR0 hap hS) 13 rfl rfl 12 (by decide) (xNF19 hev.2.1) (fun _ h9 => h9) rfl dX0_hasQuorum_5 ?_
  refine lv_iload_n hx hb dX0_hasQuorum_8 rfl (lv_at hl 2 rfl) ?_
  refine lv_iand hx hb dX0_hasQuorum_9 ?_
  refine lv_aload_n hx hb dX0_hasQuorum_10 rfl (lv_at hl 0 rfl) ?_
  refine va_getN (D := E.1) (ci := 5) (v := .int (nI ((pr i).1 17))) (C := RX4) (T := TX4) (N := 13) hx hb hts hiX4 hown hev.1 (xro hR0 hap hS) 13 rfl rfl 1 (by decide) (xNF7 hev.2.1) (fun _ h9 => h9) rfl dX0_hasQuorum_11 ?_
  have hP := hP.sub (ws' := [] ++ []) [] rfl
  have hD := hD.sub (ws' := [] ++ []) [] (by decide) rfl
  refine xci (va_runV (As := [.int (((pr i).2.1 2) &&& (un &&& (rev ^^^ (-1)))), .int (nI ((pr i).1 17))]) (rest := []) ⟨hx, hb, hml, hown, hts⟩ (kX3_isMetBy l E ((pr k).1 1) ((pr k).1 5) ((pr k).1 6) ((pr k).2.2.2 1) ((pr k).2.2.2 2) (((pr i).2.1 2) &&& (un &&& (rev ^^^ (-1)))) ((pr i).1 17) (by first | assumption | omega) H.size) (cwV 2 hts gX0_hasQuorum_X3_isMetBy rfl rfl rfl (by decide +kernel) ⟨Nat.le_of_ble_eq_true rfl, Nat.le_of_ble_eq_true rfl⟩) ⟨CP.blind, (va_recv hev.1 (xro hR0 hap hS) (ci := 4) (q0 := 2) rfl rfl), (xpre hev hz hA hP hD hS hR0 hap [2, 3, 4] rfl)⟩ rfl rfl hl.1 rfl (lv_room (Nat.le_of_ble_eq_true rfl)) dX0_hasQuorum_14 ⟨Nat.le_of_ble_eq_true rfl, Nat.le_of_ble_eq_true rfl⟩) hP hD hS hA (fun r1 w2 H locs h3 hP hD hS => ?_)
  obtain ⟨rfl, rfl, h3⟩ := h3
  try dsimp only at h3
  have hP : va_P E.1 vwCl [] H := hP
  have hD : va_D A [] := hD
  refine xrz hx hb hr hlocks (by first | rfl | decide | exact b1_narrow _) hP hD hS ⟨rfl, ?_, ?_⟩ dX0_hasQuorum_17
  · first | rfl | (subst_vars; rfl)
  · trivial

abbrev pX0_hasFollowingVersion (E : xE) (c0 : Nat) (cr : Nat) (rev : Int32) (sea : Int32) (ci : Nat → Option Nat) (N : Nat) (ra : Nat → Nat) (pr : Nat → RowP) (i : Nat) (r : Int32) (w : va_W) : Prop := w = [] ∧ r = b1 (folP ci pr i) ∧ (True)
set_option maxHeartbeats 4000000 in
set_option maxRecDepth 100000 in
theorem kX0_hasFollowingVersion (l : Launch) (E : xE) (c0 : Nat) (cr : Nat) (rev : Int32) (sea : Int32) (ci : Nat → Option Nat) (N : Nat) (ra : Nat → Nat) (pr : Nat → RowP) (i : Nat) (hok : ∀ i, i < N → rOk (pr i)) (hci : ∀ j i, ci j = some i → i < N) (hi : i < N) : KT l yX0_hasFollowingVersion wsX0_hasFollowingVersion 2 41 0 0 E [] ([(c0, .inr (1, [.ref cr, .int rev, .int sea])), (cr, aR E 10 (fun j => (ci j).map ra))] ++ rowsW E N ra pr) [.ref c0, .ref (ra i)] (QI E (pX0_hasFollowingVersion E c0 cr rev sea ci N ra pr i)) := by
  refine KT.start (cc := cX0_hasFollowingVersion) (maxL := 3) (ret := (some .boolean)) (by decide) rfl (Nat.le_of_ble_eq_true rfl) ?_
  intro p e s m below meth c A H hx hb hr hlocks hml hts hown hin hP hR0 hD hap hev hz hA hS ls hl
  have hl : lv_has ls 3 [(0, .ref c0), (1, .ref (ra i))] := hl
  have hiX4 : ∀ w ∈ wsX40, w ∈ wsX0_hasFollowingVersion := by decide +kernel
  have hap := xmoreA (L := [(ra i, .inr (5, [.int ((pr i).2.1 0), .int (nI ((pr i).1 17)), .int ((pr i).2.1 1), .long ((pr i).2.2.1), .ref ((pr i).1 0), .int (nI ((pr i).1 12)), .ref ((pr i).1 1), .ref ((pr i).1 2), .ref ((pr i).1 3), .ref ((pr i).1 4), .int (nI ((pr i).1 13)), .int (nI ((pr i).1 14)), .int ((pr i).2.1 2)])), ((pr i).1 0, aB E 16 ((pr i).2.2.2 0)), ((pr i).1 1, .inr (4, [.ref ((pr i).1 5), .ref ((pr i).1 6)])), ((pr i).1 5, aI E 10 ((pr i).2.2.2 1)), ((pr i).1 6, aI E 10 ((pr i).2.2.2 2)), ((pr i).1 2, .inr (7, [.ref ((pr i).1 7), .ref ((pr i).1 8), .int (nI ((pr i).1 15))])), ((pr i).1 7, aI E 7 ((pr i).2.2.2 3)), ((pr i).1 8, aI E 7 ((pr i).2.2.2 4)), ((pr i).1 3, .inr (2, [.ref ((pr i).1 9), .ref ((pr i).1 10), .ref ((pr i).1 11), .int (nI ((pr i).1 16))])), ((pr i).1 9, aI E 6 ((pr i).2.2.2 5)), ((pr i).1 10, aI E 6 ((pr i).2.2.2 6)), ((pr i).1 11, aZ E 6 ((pr i).2.2.2 7)), ((pr i).1 4, aI E 6 ((pr i).2.2.2 8))]) hap (fun q9 h9 => List.mem_append_right _ (rowsW_mem (E := E) (ra := ra) (pr := pr) (hi) q9 h9))
  have hR0 := xmore (L := [(ra i, .inr (5, [.int ((pr i).2.1 0), .int (nI ((pr i).1 17)), .int ((pr i).2.1 1), .long ((pr i).2.2.1), .ref ((pr i).1 0), .int (nI ((pr i).1 12)), .ref ((pr i).1 1), .ref ((pr i).1 2), .ref ((pr i).1 3), .ref ((pr i).1 4), .int (nI ((pr i).1 13)), .int (nI ((pr i).1 14)), .int ((pr i).2.1 2)])), ((pr i).1 0, aB E 16 ((pr i).2.2.2 0)), ((pr i).1 1, .inr (4, [.ref ((pr i).1 5), .ref ((pr i).1 6)])), ((pr i).1 5, aI E 10 ((pr i).2.2.2 1)), ((pr i).1 6, aI E 10 ((pr i).2.2.2 2)), ((pr i).1 2, .inr (7, [.ref ((pr i).1 7), .ref ((pr i).1 8), .int (nI ((pr i).1 15))])), ((pr i).1 7, aI E 7 ((pr i).2.2.2 3)), ((pr i).1 8, aI E 7 ((pr i).2.2.2 4)), ((pr i).1 3, .inr (2, [.ref ((pr i).1 9), .ref ((pr i).1 10), .ref ((pr i).1 11), .int (nI ((pr i).1 16))])), ((pr i).1 9, aI E 6 ((pr i).2.2.2 5)), ((pr i).1 10, aI E 6 ((pr i).2.2.2 6)), ((pr i).1 11, aZ E 6 ((pr i).2.2.2 7)), ((pr i).1 4, aI E 6 ((pr i).2.2.2 8))]) hR0 (fun q9 h9 => List.mem_append_right _ (rowsW_mem (E := E) (ra := ra) (pr := pr) (hi) q9 h9))
  have hap : ∀ q ∈ ([(ra i, .inr (5, [.int ((pr i).2.1 0), .int (nI ((pr i).1 17)), .int ((pr i).2.1 1), .long ((pr i).2.2.1), .ref ((pr i).1 0), .int (nI ((pr i).1 12)), .ref ((pr i).1 1), .ref ((pr i).1 2), .ref ((pr i).1 3), .ref ((pr i).1 4), .int (nI ((pr i).1 13)), .int (nI ((pr i).1 14)), .int ((pr i).2.1 2)])), ((pr i).1 0, aB E 16 ((pr i).2.2.2 0)), ((pr i).1 1, .inr (4, [.ref ((pr i).1 5), .ref ((pr i).1 6)])), ((pr i).1 5, aI E 10 ((pr i).2.2.2 1)), ((pr i).1 6, aI E 10 ((pr i).2.2.2 2)), ((pr i).1 2, .inr (7, [.ref ((pr i).1 7), .ref ((pr i).1 8), .int (nI ((pr i).1 15))])), ((pr i).1 7, aI E 7 ((pr i).2.2.2 3)), ((pr i).1 8, aI E 7 ((pr i).2.2.2 4)), ((pr i).1 3, .inr (2, [.ref ((pr i).1 9), .ref ((pr i).1 10), .ref ((pr i).1 11), .int (nI ((pr i).1 16))])), ((pr i).1 9, aI E 6 ((pr i).2.2.2 5)), ((pr i).1 10, aI E 6 ((pr i).2.2.2 6)), ((pr i).1 11, aZ E 6 ((pr i).2.2.2 7)), ((pr i).1 4, aI E 6 ((pr i).2.2.2 8)), (c0, .inr (1, [.ref cr, .int rev, .int sea])), (cr, aR E 10 (fun j => (ci j).map ra))] ++ rowsW E N ra pr), ¬ A q.1 := hap
  have hR0 : va_P E.1 vwCl ([(ra i, .inr (5, [.int ((pr i).2.1 0), .int (nI ((pr i).1 17)), .int ((pr i).2.1 1), .long ((pr i).2.2.1), .ref ((pr i).1 0), .int (nI ((pr i).1 12)), .ref ((pr i).1 1), .ref ((pr i).1 2), .ref ((pr i).1 3), .ref ((pr i).1 4), .int (nI ((pr i).1 13)), .int (nI ((pr i).1 14)), .int ((pr i).2.1 2)])), ((pr i).1 0, aB E 16 ((pr i).2.2.2 0)), ((pr i).1 1, .inr (4, [.ref ((pr i).1 5), .ref ((pr i).1 6)])), ((pr i).1 5, aI E 10 ((pr i).2.2.2 1)), ((pr i).1 6, aI E 10 ((pr i).2.2.2 2)), ((pr i).1 2, .inr (7, [.ref ((pr i).1 7), .ref ((pr i).1 8), .int (nI ((pr i).1 15))])), ((pr i).1 7, aI E 7 ((pr i).2.2.2 3)), ((pr i).1 8, aI E 7 ((pr i).2.2.2 4)), ((pr i).1 3, .inr (2, [.ref ((pr i).1 9), .ref ((pr i).1 10), .ref ((pr i).1 11), .int (nI ((pr i).1 16))])), ((pr i).1 9, aI E 6 ((pr i).2.2.2 5)), ((pr i).1 10, aI E 6 ((pr i).2.2.2 6)), ((pr i).1 11, aZ E 6 ((pr i).2.2.2 7)), ((pr i).1 4, aI E 6 ((pr i).2.2.2 8)), (c0, .inr (1, [.ref cr, .int rev, .int sea])), (cr, aR E 10 (fun j => (ci j).map ra))] ++ rowsW E N ra pr) s.heap := hR0
  obtain ⟨o12i, o13i, o14i, o15i, o16i, o17i⟩ := hok i (hi)
  refine lv_aload_n hx hb dX0_hasFollowingVersion_0 rfl (lv_at hl 0 rfl) ?_
  refine lv_aload_n hx hb dX0_hasFollowingVersion_1 rfl (lv_at hl 1 rfl) ?_
  refine va_getN (D := E.1) (ci := 5) (v := .int (nI ((pr i).1 17))) (C := RX4) (T := TX4) (N := 13) hx hb hts hiX4 hown hev.1 (xro hR0 hap hS) 0 rfl rfl 1 (by decide) (xNF7 hev.2.1) (fun _ h9 => h9) rfl dX0_hasFollowingVersion_2 ?_
  have hP := hP.sub (ws' := [] ++ []) [] rfl
  have hD := hD.sub (ws' := [] ++ []) [] (by decide) rfl
  refine xcr (va_runV (As := [.int (nI ((pr i).1 17))]) (rest := []) ⟨hx, hb, hml, hown, hts⟩ (kX0_currentOfJ l E c0 cr rev sea ci ra ((pr i).1 17) (by first | assumption | omega) H.size) (cwV 1 hts gX0_hasFollowingVersion_X0_currentOf rfl rfl rfl (by decide +kernel) ⟨Nat.le_of_ble_eq_true rfl, Nat.le_of_ble_eq_true rfl⟩) ⟨CP.blind, (va_recv hev.1 (xro hR0 hap hS) (ci := 1) (q0 := 13) rfl rfl), (xpre hev hz hA hP hD hS hR0 hap [13, 14] rfl)⟩ rfl rfl hl.1 rfl (lv_room (Nat.le_of_ble_eq_true rfl)) dX0_hasFollowingVersion_5 ⟨Nat.le_of_ble_eq_true rfl, Nat.le_of_ble_eq_true rfl⟩) hP hD hS hA (fun r1 w2 H locs h3 hP hD hS => ?_)
  obtain ⟨rfl, rfl, h3⟩ := h3
  try dsimp only at h3
  have hP : va_P E.1 vwCl [] H := hP
  have hD : va_D A [] := hD
  cases o4 : ci ((pr i).1 17) with
  | none =>
    refine lv_astore_nN (lv' := [(2, .null), (0, .ref c0), (1, .ref (ra i))]) hx hb dX0_hasFollowingVersion_8 rfl hl (by decide) rfl (fun ls hl => ?_)
    refine lv_aload_nN hx hb dX0_hasFollowingVersion_9 rfl (lv_at hl 0 rfl) ?_
    refine lv_ifnonnullN hx hb dX0_hasFollowingVersion_10 ?_
    refine lv_iconst (v := 1) hx hb dX0_hasFollowingVersion_13 (by decide) ?_
    refine xrz hx hb hr hlocks (by first | rfl | decide | exact b1_narrow _) hP hD hS ⟨rfl, ?_, ?_⟩ dX0_hasFollowingVersion_14
    · exact (b1_t (fun k9 h9 => by rw [o4] at h9; cases h9)).symm
    · trivial
  | some kk =>
    have hap := xmoreA (L := [(ra kk, .inr (5, [.int ((pr kk).2.1 0), .int (nI ((pr kk).1 17)), .int ((pr kk).2.1 1), .long ((pr kk).2.2.1), .ref ((pr kk).1 0), .int (nI ((pr kk).1 12)), .ref ((pr kk).1 1), .ref ((pr kk).1 2), .ref ((pr kk).1 3), .ref ((pr kk).1 4), .int (nI ((pr kk).1 13)), .int (nI ((pr kk).1 14)), .int ((pr kk).2.1 2)])), ((pr kk).1 0, aB E 16 ((pr kk).2.2.2 0)), ((pr kk).1 1, .inr (4, [.ref ((pr kk).1 5), .ref ((pr kk).1 6)])), ((pr kk).1 5, aI E 10 ((pr kk).2.2.2 1)), ((pr kk).1 6, aI E 10 ((pr kk).2.2.2 2)), ((pr kk).1 2, .inr (7, [.ref ((pr kk).1 7), .ref ((pr kk).1 8), .int (nI ((pr kk).1 15))])), ((pr kk).1 7, aI E 7 ((pr kk).2.2.2 3)), ((pr kk).1 8, aI E 7 ((pr kk).2.2.2 4)), ((pr kk).1 3, .inr (2, [.ref ((pr kk).1 9), .ref ((pr kk).1 10), .ref ((pr kk).1 11), .int (nI ((pr kk).1 16))])), ((pr kk).1 9, aI E 6 ((pr kk).2.2.2 5)), ((pr kk).1 10, aI E 6 ((pr kk).2.2.2 6)), ((pr kk).1 11, aZ E 6 ((pr kk).2.2.2 7)), ((pr kk).1 4, aI E 6 ((pr kk).2.2.2 8))]) hap (fun q9 h9 => List.mem_append_right _ (rowsW_mem (E := E) (ra := ra) (pr := pr) (hci _ _ o4) q9 h9))
    have hR0 := xmore (L := [(ra kk, .inr (5, [.int ((pr kk).2.1 0), .int (nI ((pr kk).1 17)), .int ((pr kk).2.1 1), .long ((pr kk).2.2.1), .ref ((pr kk).1 0), .int (nI ((pr kk).1 12)), .ref ((pr kk).1 1), .ref ((pr kk).1 2), .ref ((pr kk).1 3), .ref ((pr kk).1 4), .int (nI ((pr kk).1 13)), .int (nI ((pr kk).1 14)), .int ((pr kk).2.1 2)])), ((pr kk).1 0, aB E 16 ((pr kk).2.2.2 0)), ((pr kk).1 1, .inr (4, [.ref ((pr kk).1 5), .ref ((pr kk).1 6)])), ((pr kk).1 5, aI E 10 ((pr kk).2.2.2 1)), ((pr kk).1 6, aI E 10 ((pr kk).2.2.2 2)), ((pr kk).1 2, .inr (7, [.ref ((pr kk).1 7), .ref ((pr kk).1 8), .int (nI ((pr kk).1 15))])), ((pr kk).1 7, aI E 7 ((pr kk).2.2.2 3)), ((pr kk).1 8, aI E 7 ((pr kk).2.2.2 4)), ((pr kk).1 3, .inr (2, [.ref ((pr kk).1 9), .ref ((pr kk).1 10), .ref ((pr kk).1 11), .int (nI ((pr kk).1 16))])), ((pr kk).1 9, aI E 6 ((pr kk).2.2.2 5)), ((pr kk).1 10, aI E 6 ((pr kk).2.2.2 6)), ((pr kk).1 11, aZ E 6 ((pr kk).2.2.2 7)), ((pr kk).1 4, aI E 6 ((pr kk).2.2.2 8))]) hR0 (fun q9 h9 => List.mem_append_right _ (rowsW_mem (E := E) (ra := ra) (pr := pr) (hci _ _ o4) q9 h9))
    have hap : ∀ q ∈ ([(ra kk, .inr (5, [.int ((pr kk).2.1 0), .int (nI ((pr kk).1 17)), .int ((pr kk).2.1 1), .long ((pr kk).2.2.1), .ref ((pr kk).1 0), .int (nI ((pr kk).1 12)), .ref ((pr kk).1 1), .ref ((pr kk).1 2), .ref ((pr kk).1 3), .ref ((pr kk).1 4), .int (nI ((pr kk).1 13)), .int (nI ((pr kk).1 14)), .int ((pr kk).2.1 2)])), ((pr kk).1 0, aB E 16 ((pr kk).2.2.2 0)), ((pr kk).1 1, .inr (4, [.ref ((pr kk).1 5), .ref ((pr kk).1 6)])), ((pr kk).1 5, aI E 10 ((pr kk).2.2.2 1)), ((pr kk).1 6, aI E 10 ((pr kk).2.2.2 2)), ((pr kk).1 2, .inr (7, [.ref ((pr kk).1 7), .ref ((pr kk).1 8), .int (nI ((pr kk).1 15))])), ((pr kk).1 7, aI E 7 ((pr kk).2.2.2 3)), ((pr kk).1 8, aI E 7 ((pr kk).2.2.2 4)), ((pr kk).1 3, .inr (2, [.ref ((pr kk).1 9), .ref ((pr kk).1 10), .ref ((pr kk).1 11), .int (nI ((pr kk).1 16))])), ((pr kk).1 9, aI E 6 ((pr kk).2.2.2 5)), ((pr kk).1 10, aI E 6 ((pr kk).2.2.2 6)), ((pr kk).1 11, aZ E 6 ((pr kk).2.2.2 7)), ((pr kk).1 4, aI E 6 ((pr kk).2.2.2 8)), (ra i, .inr (5, [.int ((pr i).2.1 0), .int (nI ((pr i).1 17)), .int ((pr i).2.1 1), .long ((pr i).2.2.1), .ref ((pr i).1 0), .int (nI ((pr i).1 12)), .ref ((pr i).1 1), .ref ((pr i).1 2), .ref ((pr i).1 3), .ref ((pr i).1 4), .int (nI ((pr i).1 13)), .int (nI ((pr i).1 14)), .int ((pr i).2.1 2)])), ((pr i).1 0, aB E 16 ((pr i).2.2.2 0)), ((pr i).1 1, .inr (4, [.ref ((pr i).1 5), .ref ((pr i).1 6)])), ((pr i).1 5, aI E 10 ((pr i).2.2.2 1)), ((pr i).1 6, aI E 10 ((pr i).2.2.2 2)), ((pr i).1 2, .inr (7, [.ref ((pr i).1 7), .ref ((pr i).1 8), .int (nI ((pr i).1 15))])), ((pr i).1 7, aI E 7 ((pr i).2.2.2 3)), ((pr i).1 8, aI E 7 ((pr i).2.2.2 4)), ((pr i).1 3, .inr (2, [.ref ((pr i).1 9), .ref ((pr i).1 10), .ref ((pr i).1 11), .int (nI ((pr i).1 16))])), ((pr i).1 9, aI E 6 ((pr i).2.2.2 5)), ((pr i).1 10, aI E 6 ((pr i).2.2.2 6)), ((pr i).1 11, aZ E 6 ((pr i).2.2.2 7)), ((pr i).1 4, aI E 6 ((pr i).2.2.2 8)), (c0, .inr (1, [.ref cr, .int rev, .int sea])), (cr, aR E 10 (fun j => (ci j).map ra))] ++ rowsW E N ra pr), ¬ A q.1 := hap
    have hR0 : va_P E.1 vwCl ([(ra kk, .inr (5, [.int ((pr kk).2.1 0), .int (nI ((pr kk).1 17)), .int ((pr kk).2.1 1), .long ((pr kk).2.2.1), .ref ((pr kk).1 0), .int (nI ((pr kk).1 12)), .ref ((pr kk).1 1), .ref ((pr kk).1 2), .ref ((pr kk).1 3), .ref ((pr kk).1 4), .int (nI ((pr kk).1 13)), .int (nI ((pr kk).1 14)), .int ((pr kk).2.1 2)])), ((pr kk).1 0, aB E 16 ((pr kk).2.2.2 0)), ((pr kk).1 1, .inr (4, [.ref ((pr kk).1 5), .ref ((pr kk).1 6)])), ((pr kk).1 5, aI E 10 ((pr kk).2.2.2 1)), ((pr kk).1 6, aI E 10 ((pr kk).2.2.2 2)), ((pr kk).1 2, .inr (7, [.ref ((pr kk).1 7), .ref ((pr kk).1 8), .int (nI ((pr kk).1 15))])), ((pr kk).1 7, aI E 7 ((pr kk).2.2.2 3)), ((pr kk).1 8, aI E 7 ((pr kk).2.2.2 4)), ((pr kk).1 3, .inr (2, [.ref ((pr kk).1 9), .ref ((pr kk).1 10), .ref ((pr kk).1 11), .int (nI ((pr kk).1 16))])), ((pr kk).1 9, aI E 6 ((pr kk).2.2.2 5)), ((pr kk).1 10, aI E 6 ((pr kk).2.2.2 6)), ((pr kk).1 11, aZ E 6 ((pr kk).2.2.2 7)), ((pr kk).1 4, aI E 6 ((pr kk).2.2.2 8)), (ra i, .inr (5, [.int ((pr i).2.1 0), .int (nI ((pr i).1 17)), .int ((pr i).2.1 1), .long ((pr i).2.2.1), .ref ((pr i).1 0), .int (nI ((pr i).1 12)), .ref ((pr i).1 1), .ref ((pr i).1 2), .ref ((pr i).1 3), .ref ((pr i).1 4), .int (nI ((pr i).1 13)), .int (nI ((pr i).1 14)), .int ((pr i).2.1 2)])), ((pr i).1 0, aB E 16 ((pr i).2.2.2 0)), ((pr i).1 1, .inr (4, [.ref ((pr i).1 5), .ref ((pr i).1 6)])), ((pr i).1 5, aI E 10 ((pr i).2.2.2 1)), ((pr i).1 6, aI E 10 ((pr i).2.2.2 2)), ((pr i).1 2, .inr (7, [.ref ((pr i).1 7), .ref ((pr i).1 8), .int (nI ((pr i).1 15))])), ((pr i).1 7, aI E 7 ((pr i).2.2.2 3)), ((pr i).1 8, aI E 7 ((pr i).2.2.2 4)), ((pr i).1 3, .inr (2, [.ref ((pr i).1 9), .ref ((pr i).1 10), .ref ((pr i).1 11), .int (nI ((pr i).1 16))])), ((pr i).1 9, aI E 6 ((pr i).2.2.2 5)), ((pr i).1 10, aI E 6 ((pr i).2.2.2 6)), ((pr i).1 11, aZ E 6 ((pr i).2.2.2 7)), ((pr i).1 4, aI E 6 ((pr i).2.2.2 8)), (c0, .inr (1, [.ref cr, .int rev, .int sea])), (cr, aR E 10 (fun j => (ci j).map ra))] ++ rowsW E N ra pr) s.heap := hR0
    have hltkk : kk < N := hci _ _ o4
    obtain ⟨o12kk, o13kk, o14kk, o15kk, o16kk, o17kk⟩ := hok kk (hci _ _ o4)
    refine lv_astore_n (lv' := [(2, .ref (ra kk)), (0, .ref c0), (1, .ref (ra i))]) hx hb dX0_hasFollowingVersion_8 rfl hl (by decide) rfl (fun ls hl => ?_)
    refine lv_aload_n hx hb dX0_hasFollowingVersion_9 rfl (lv_at hl 0 rfl) ?_
    refine lv_ifnonnull (tgt := 15) hx hb dX0_hasFollowingVersion_10 (by decide) ?_
    refine lv_aload_n hx hb dX0_hasFollowingVersion_15 rfl (lv_at hl 2 rfl) ?_
    refine va_getN (D := E.1) (ci := 5) (v := .int (nI ((pr i).1 17))) (C := RX4) (T := TX4) (N := 13) hx hb hts hiX4 hown hev.1 (xro hR0 hap hS) 13 rfl rfl 1 (by decide) (xNF7 hev.2.1) (fun _ h9 => h9) rfl dX0_hasFollowingVersion_16 ?_
    refine lv_if_ne (tgt := 43) hx hb dX0_hasFollowingVersion_19 (by decide) (fun c5 => ?_) (fun c5 => ?_)
    · skip
      have kc5 : ¬ ((pr i).1 17) = 0 := fun h9 => c5 ((nI_eq (a := ((pr i).1 17)) (b := 0) (by omega) (by omega)).mpr h9)
      refine lv_aload_n hx hb dX0_hasFollowingVersion_43 rfl (lv_at hl 2 rfl) ?_
      refine va_getN (D := E.1) (ci := 5) (v := .int ((pr i).2.1 1)) (C := RX4) (T := TX4) (N := 13) hx hb hts hiX4 hown hev.1 (xro hR0 hap hS) 13 rfl rfl 2 (by decide) (xNF9 hev.2.1) (fun _ h9 => h9) rfl dX0_hasFollowingVersion_44 ?_
      refine lv_aload_n hx hb dX0_hasFollowingVersion_47 rfl (lv_at hl 0 rfl) ?_
      refine va_getN (D := E.1) (ci := 5) (v := .int ((pr kk).2.1 1)) (C := RX4) (T := TX4) (N := 13) hx hb hts hiX4 hown hev.1 (xro hR0 hap hS) 0 rfl rfl 2 (by decide) (xNF9 hev.2.1) (fun _ h9 => h9) rfl dX0_hasFollowingVersion_48 ?_
      refine lv_icmp_lt (tgt := 58) hx hb dX0_hasFollowingVersion_51 (by decide) (fun c6 => ?_) (fun c6 => ?_)
      · skip
        refine lv_iconst (v := 0) hx hb dX0_hasFollowingVersion_58 (by decide) ?_
        refine xrz hx hb hr hlocks (by first | rfl | decide | exact b1_narrow _) hP hD hS ⟨rfl, ?_, ?_⟩ dX0_hasFollowingVersion_59
        · exact (b1_f (fun h9 => (h9 kk o4).2 kc5 c6)).symm
        · trivial
      · skip
        refine lv_iconst (v := 1) hx hb dX0_hasFollowingVersion_54 (by decide) ?_
        refine lv_goto (tgt := 59) hx hb dX0_hasFollowingVersion_55 (by decide) ?_
        refine xrz hx hb hr hlocks (by first | rfl | decide | exact b1_narrow _) hP hD hS ⟨rfl, ?_, ?_⟩ dX0_hasFollowingVersion_59
        · exact (b1_t (fun k9 h9 => by rw [o4] at h9; cases h9; exact ⟨fun q => absurd q kc5, fun _ => c6⟩)).symm
        · trivial
    · skip
      have kc5 : ((pr i).1 17) = 0 := (nI_eq (a := ((pr i).1 17)) (b := 0) (by omega) (by omega)).mp c5
      refine lv_aload_n hx hb dX0_hasFollowingVersion_22 rfl (lv_at hl 2 rfl) ?_
      refine va_getN (D := E.1) (ci := 5) (v := .int ((pr i).2.1 1)) (C := RX4) (T := TX4) (N := 13) hx hb hts hiX4 hown hev.1 (xro hR0 hap hS) 13 rfl rfl 2 (by decide) (xNF9 hev.2.1) (fun _ h9 => h9) rfl dX0_hasFollowingVersion_23 ?_
      refine lv_aload_n hx hb dX0_hasFollowingVersion_26 rfl (lv_at hl 0 rfl) ?_
      refine va_getN (D := E.1) (ci := 5) (v := .int ((pr kk).2.1 1)) (C := RX4) (T := TX4) (N := 13) hx hb hts hiX4 hown hev.1 (xro hR0 hap hS) 0 rfl rfl 2 (by decide) (xNF9 hev.2.1) (fun _ h9 => h9) rfl dX0_hasFollowingVersion_27 ?_
      refine lv_iconst (v := 1) hx hb dX0_hasFollowingVersion_30 (by decide) ?_
      refine lv_iadd hx hb dX0_hasFollowingVersion_31 ?_
      refine lv_icmp_ne (tgt := 39) hx hb dX0_hasFollowingVersion_32 (by decide) (fun c7 => ?_) (fun c7 => ?_)
      · skip
        refine lv_iconst (v := 0) hx hb dX0_hasFollowingVersion_39 (by decide) ?_
        refine lv_goto (tgt := 59) hx hb dX0_hasFollowingVersion_40 (by decide) ?_
        refine xrz hx hb hr hlocks (by first | rfl | decide | exact b1_narrow _) hP hD hS ⟨rfl, ?_, ?_⟩ dX0_hasFollowingVersion_59
        · exact (b1_f (fun h9 => c7 ((h9 kk o4).1 kc5))).symm
        · trivial
      · skip
        refine lv_iconst (v := 1) hx hb dX0_hasFollowingVersion_35 (by decide) ?_
        refine lv_goto (tgt := 59) hx hb dX0_hasFollowingVersion_36 (by decide) ?_
        refine xrz hx hb hr hlocks (by first | rfl | decide | exact b1_narrow _) hP hD hS ⟨rfl, ?_, ?_⟩ dX0_hasFollowingVersion_59
        · exact (b1_t (fun k9 h9 => by rw [o4] at h9; cases h9; exact ⟨fun _ => c7, fun q => absurd kc5 q⟩)).symm
        · trivial

abbrev pX0_isToldAsNeeded (E : xE) (c0 : Nat) (cr : Nat) (rev : Int32) (sea : Int32) (ci : Nat → Option Nat) (N : Nat) (ra : Nat → Nat) (pr : Nat → RowP) (i : Nat) (t : Int64) (r : Int32) (w : va_W) : Prop := w = [] ∧ r = b1 (tolP ci pr t i) ∧ (True)
set_option maxHeartbeats 4000000 in
set_option maxRecDepth 100000 in
theorem kX0_isToldAsNeeded (l : Launch) (E : xE) (c0 : Nat) (cr : Nat) (rev : Int32) (sea : Int32) (ci : Nat → Option Nat) (N : Nat) (ra : Nat → Nat) (pr : Nat → RowP) (i : Nat) (t : Int64) (hok : ∀ i, i < N → rOk (pr i)) (hci : ∀ j i, ci j = some i → i < N) (hi : i < N) : KT l yX0_isToldAsNeeded wsX0_isToldAsNeeded 2 44 0 0 E [] ([(c0, .inr (1, [.ref cr, .int rev, .int sea])), (cr, aR E 10 (fun j => (ci j).map ra))] ++ rowsW E N ra pr) [.ref c0, .ref (ra i), .long t] (QI E (pX0_isToldAsNeeded E c0 cr rev sea ci N ra pr i t)) := by
  refine KT.start (cc := cX0_isToldAsNeeded) (maxL := 5) (ret := (some .boolean)) (by decide) rfl (Nat.le_of_ble_eq_true rfl) ?_
  intro p e s m below meth c A H hx hb hr hlocks hml hts hown hin hP hR0 hD hap hev hz hA hS ls hl
  have hl : lv_has ls 5 [(0, .ref c0), (1, .ref (ra i)), (2, .long t)] := hl
  have hiX4 : ∀ w ∈ wsX40, w ∈ wsX0_isToldAsNeeded := by decide +kernel
  have hap := xmoreA (L := [(ra i, .inr (5, [.int ((pr i).2.1 0), .int (nI ((pr i).1 17)), .int ((pr i).2.1 1), .long ((pr i).2.2.1), .ref ((pr i).1 0), .int (nI ((pr i).1 12)), .ref ((pr i).1 1), .ref ((pr i).1 2), .ref ((pr i).1 3), .ref ((pr i).1 4), .int (nI ((pr i).1 13)), .int (nI ((pr i).1 14)), .int ((pr i).2.1 2)])), ((pr i).1 0, aB E 16 ((pr i).2.2.2 0)), ((pr i).1 1, .inr (4, [.ref ((pr i).1 5), .ref ((pr i).1 6)])), ((pr i).1 5, aI E 10 ((pr i).2.2.2 1)), ((pr i).1 6, aI E 10 ((pr i).2.2.2 2)), ((pr i).1 2, .inr (7, [.ref ((pr i).1 7), .ref ((pr i).1 8), .int (nI ((pr i).1 15))])), ((pr i).1 7, aI E 7 ((pr i).2.2.2 3)), ((pr i).1 8, aI E 7 ((pr i).2.2.2 4)), ((pr i).1 3, .inr (2, [.ref ((pr i).1 9), .ref ((pr i).1 10), .ref ((pr i).1 11), .int (nI ((pr i).1 16))])), ((pr i).1 9, aI E 6 ((pr i).2.2.2 5)), ((pr i).1 10, aI E 6 ((pr i).2.2.2 6)), ((pr i).1 11, aZ E 6 ((pr i).2.2.2 7)), ((pr i).1 4, aI E 6 ((pr i).2.2.2 8))]) hap (fun q9 h9 => List.mem_append_right _ (rowsW_mem (E := E) (ra := ra) (pr := pr) (hi) q9 h9))
  have hR0 := xmore (L := [(ra i, .inr (5, [.int ((pr i).2.1 0), .int (nI ((pr i).1 17)), .int ((pr i).2.1 1), .long ((pr i).2.2.1), .ref ((pr i).1 0), .int (nI ((pr i).1 12)), .ref ((pr i).1 1), .ref ((pr i).1 2), .ref ((pr i).1 3), .ref ((pr i).1 4), .int (nI ((pr i).1 13)), .int (nI ((pr i).1 14)), .int ((pr i).2.1 2)])), ((pr i).1 0, aB E 16 ((pr i).2.2.2 0)), ((pr i).1 1, .inr (4, [.ref ((pr i).1 5), .ref ((pr i).1 6)])), ((pr i).1 5, aI E 10 ((pr i).2.2.2 1)), ((pr i).1 6, aI E 10 ((pr i).2.2.2 2)), ((pr i).1 2, .inr (7, [.ref ((pr i).1 7), .ref ((pr i).1 8), .int (nI ((pr i).1 15))])), ((pr i).1 7, aI E 7 ((pr i).2.2.2 3)), ((pr i).1 8, aI E 7 ((pr i).2.2.2 4)), ((pr i).1 3, .inr (2, [.ref ((pr i).1 9), .ref ((pr i).1 10), .ref ((pr i).1 11), .int (nI ((pr i).1 16))])), ((pr i).1 9, aI E 6 ((pr i).2.2.2 5)), ((pr i).1 10, aI E 6 ((pr i).2.2.2 6)), ((pr i).1 11, aZ E 6 ((pr i).2.2.2 7)), ((pr i).1 4, aI E 6 ((pr i).2.2.2 8))]) hR0 (fun q9 h9 => List.mem_append_right _ (rowsW_mem (E := E) (ra := ra) (pr := pr) (hi) q9 h9))
  have hap : ∀ q ∈ ([(ra i, .inr (5, [.int ((pr i).2.1 0), .int (nI ((pr i).1 17)), .int ((pr i).2.1 1), .long ((pr i).2.2.1), .ref ((pr i).1 0), .int (nI ((pr i).1 12)), .ref ((pr i).1 1), .ref ((pr i).1 2), .ref ((pr i).1 3), .ref ((pr i).1 4), .int (nI ((pr i).1 13)), .int (nI ((pr i).1 14)), .int ((pr i).2.1 2)])), ((pr i).1 0, aB E 16 ((pr i).2.2.2 0)), ((pr i).1 1, .inr (4, [.ref ((pr i).1 5), .ref ((pr i).1 6)])), ((pr i).1 5, aI E 10 ((pr i).2.2.2 1)), ((pr i).1 6, aI E 10 ((pr i).2.2.2 2)), ((pr i).1 2, .inr (7, [.ref ((pr i).1 7), .ref ((pr i).1 8), .int (nI ((pr i).1 15))])), ((pr i).1 7, aI E 7 ((pr i).2.2.2 3)), ((pr i).1 8, aI E 7 ((pr i).2.2.2 4)), ((pr i).1 3, .inr (2, [.ref ((pr i).1 9), .ref ((pr i).1 10), .ref ((pr i).1 11), .int (nI ((pr i).1 16))])), ((pr i).1 9, aI E 6 ((pr i).2.2.2 5)), ((pr i).1 10, aI E 6 ((pr i).2.2.2 6)), ((pr i).1 11, aZ E 6 ((pr i).2.2.2 7)), ((pr i).1 4, aI E 6 ((pr i).2.2.2 8)), (c0, .inr (1, [.ref cr, .int rev, .int sea])), (cr, aR E 10 (fun j => (ci j).map ra))] ++ rowsW E N ra pr), ¬ A q.1 := hap
  have hR0 : va_P E.1 vwCl ([(ra i, .inr (5, [.int ((pr i).2.1 0), .int (nI ((pr i).1 17)), .int ((pr i).2.1 1), .long ((pr i).2.2.1), .ref ((pr i).1 0), .int (nI ((pr i).1 12)), .ref ((pr i).1 1), .ref ((pr i).1 2), .ref ((pr i).1 3), .ref ((pr i).1 4), .int (nI ((pr i).1 13)), .int (nI ((pr i).1 14)), .int ((pr i).2.1 2)])), ((pr i).1 0, aB E 16 ((pr i).2.2.2 0)), ((pr i).1 1, .inr (4, [.ref ((pr i).1 5), .ref ((pr i).1 6)])), ((pr i).1 5, aI E 10 ((pr i).2.2.2 1)), ((pr i).1 6, aI E 10 ((pr i).2.2.2 2)), ((pr i).1 2, .inr (7, [.ref ((pr i).1 7), .ref ((pr i).1 8), .int (nI ((pr i).1 15))])), ((pr i).1 7, aI E 7 ((pr i).2.2.2 3)), ((pr i).1 8, aI E 7 ((pr i).2.2.2 4)), ((pr i).1 3, .inr (2, [.ref ((pr i).1 9), .ref ((pr i).1 10), .ref ((pr i).1 11), .int (nI ((pr i).1 16))])), ((pr i).1 9, aI E 6 ((pr i).2.2.2 5)), ((pr i).1 10, aI E 6 ((pr i).2.2.2 6)), ((pr i).1 11, aZ E 6 ((pr i).2.2.2 7)), ((pr i).1 4, aI E 6 ((pr i).2.2.2 8)), (c0, .inr (1, [.ref cr, .int rev, .int sea])), (cr, aR E 10 (fun j => (ci j).map ra))] ++ rowsW E N ra pr) s.heap := hR0
  obtain ⟨o12i, o13i, o14i, o15i, o16i, o17i⟩ := hok i (hi)
  refine lv_aload_n hx hb dX0_isToldAsNeeded_0 rfl (lv_at hl 1 rfl) ?_
  refine va_getN (D := E.1) (ci := 5) (v := .int (nI ((pr i).1 17))) (C := RX4) (T := TX4) (N := 13) hx hb hts hiX4 hown hev.1 (xro hR0 hap hS) 0 rfl rfl 1 (by decide) (xNF7 hev.2.1) (fun _ h9 => h9) rfl dX0_isToldAsNeeded_1 ?_
  refine lv_if_eq (tgt := 15) hx hb dX0_isToldAsNeeded_4 (by decide) (fun c1 => ?_) (fun c1 => ?_)
  · skip
    have kc1 : ((pr i).1 17) = 0 := (nI_eq (a := ((pr i).1 17)) (b := 0) (by omega) (by omega)).mp c1
    refine lv_iconst (v := 1) hx hb dX0_isToldAsNeeded_15 (by decide) ?_
    refine xrz hx hb hr hlocks (by first | rfl | decide | exact b1_narrow _) hP hD hS ⟨rfl, ?_, ?_⟩ dX0_isToldAsNeeded_16
    · exact (b1_t (Or.inl kc1)).symm
    · trivial
  · skip
    have kc1 : ¬ ((pr i).1 17) = 0 := fun h9 => c1 ((nI_eq (a := ((pr i).1 17)) (b := 0) (by omega) (by omega)).mpr h9)
    refine lv_aload_n hx hb dX0_isToldAsNeeded_7 rfl (lv_at hl 1 rfl) ?_
    refine va_getN (D := E.1) (ci := 5) (v := .int (nI ((pr i).1 17))) (C := RX4) (T := TX4) (N := 13) hx hb hts hiX4 hown hev.1 (xro hR0 hap hS) 0 rfl rfl 1 (by decide) (xNF7 hev.2.1) (fun _ h9 => h9) rfl dX0_isToldAsNeeded_8 ?_
    refine lv_iconst (v := 1) hx hb dX0_isToldAsNeeded_11 (by decide) ?_
    refine lv_icmp_ne (tgt := 17) hx hb dX0_isToldAsNeeded_12 (by decide) (fun c2 => ?_) (fun c2 => ?_)
    · skip
      have kc2 : ¬ ((pr i).1 17) = 1 := fun h9 => c2 ((nI_eq (a := ((pr i).1 17)) (b := 1) (by omega) (by omega)).mpr h9)
      refine lv_aload_n hx hb dX0_isToldAsNeeded_17 rfl (lv_at hl 0 rfl) ?_
      refine lv_aload_n hx hb dX0_isToldAsNeeded_18 rfl (lv_at hl 1 rfl) ?_
      refine va_getN (D := E.1) (ci := 5) (v := .int (nI ((pr i).1 17))) (C := RX4) (T := TX4) (N := 13) hx hb hts hiX4 hown hev.1 (xro hR0 hap hS) 0 rfl rfl 1 (by decide) (xNF7 hev.2.1) (fun _ h9 => h9) rfl dX0_isToldAsNeeded_19 ?_
      refine lv_iconst (v := 2) hx hb dX0_isToldAsNeeded_22 (by decide) ?_
      refine lv_icmp_ne (tgt := 30) hx hb dX0_isToldAsNeeded_23 (by decide) (fun c3 => ?_) (fun c3 => ?_)
      · skip
        have kc3 : ¬ ((pr i).1 17) = 2 := fun h9 => c3 ((nI_eq (a := ((pr i).1 17)) (b := 2) (by omega) (by omega)).mpr h9)
        refine lv_iconst (v := 2) hx hb dX0_isToldAsNeeded_30 (by decide) ?_
        have hif : (if (pr i).1 17 = 2 then 1 else 2) = 2 := if_neg kc3
        have hP := hP.sub (ws' := [] ++ []) [] rfl
        have hD := hD.sub (ws' := [] ++ []) [] (by decide) rfl
        refine xcr (va_runV (As := [.int 2]) (rest := []) ⟨hx, hb, hml, hown, hts⟩ (kX0_currentOfJ l E c0 cr rev sea ci ra 2 (by first | assumption | omega) H.size) (cwV 1 hts gX0_isToldAsNeeded_X0_currentOf rfl rfl rfl (by decide +kernel) ⟨Nat.le_of_ble_eq_true rfl, Nat.le_of_ble_eq_true rfl⟩) ⟨CP.blind, (va_recv hev.1 (xro hR0 hap hS) (ci := 1) (q0 := 13) rfl rfl), (xpre hev hz hA hP hD hS hR0 hap [13, 14] rfl)⟩ rfl rfl hl.1 rfl (lv_room (Nat.le_of_ble_eq_true rfl)) dX0_isToldAsNeeded_31 ⟨Nat.le_of_ble_eq_true rfl, Nat.le_of_ble_eq_true rfl⟩) hP hD hS hA (fun r4 w5 H locs h6 hP hD hS => ?_)
        obtain ⟨rfl, rfl, h6⟩ := h6
        try dsimp only at h6
        have hP : va_P E.1 vwCl [] H := hP
        have hD : va_D A [] := hD
        cases o7 : ci 2 with
        | none =>
          refine lv_astoreN (lv' := [(4, .null), (0, .ref c0), (1, .ref (ra i)), (2, .long t)]) hx hb dX0_isToldAsNeeded_34 hl (by decide) rfl (fun ls hl => ?_)
          refine lv_aloadN hx hb dX0_isToldAsNeeded_36 (lv_at hl 0 rfl) ?_
          refine lv_ifnullN (tgt := 73) hx hb dX0_isToldAsNeeded_38 (by decide) ?_
          refine lv_iconst (v := 0) hx hb dX0_isToldAsNeeded_73 (by decide) ?_
          refine xrz hx hb hr hlocks (by first | rfl | decide | exact b1_narrow _) hP hD hS ⟨rfl, ?_, ?_⟩ dX0_isToldAsNeeded_74
          · exact (b1_f (fun h9 => h9.elim kc1 (fun h9 => h9.elim kc2 (fun ⟨k9, q1, q2, j9, q3, q4⟩ => by rw [hif, o7] at q1; cases q1)))).symm
          · trivial
        | some kk =>
          have hap := xmoreA (L := [(ra kk, .inr (5, [.int ((pr kk).2.1 0), .int (nI ((pr kk).1 17)), .int ((pr kk).2.1 1), .long ((pr kk).2.2.1), .ref ((pr kk).1 0), .int (nI ((pr kk).1 12)), .ref ((pr kk).1 1), .ref ((pr kk).1 2), .ref ((pr kk).1 3), .ref ((pr kk).1 4), .int (nI ((pr kk).1 13)), .int (nI ((pr kk).1 14)), .int ((pr kk).2.1 2)])), ((pr kk).1 0, aB E 16 ((pr kk).2.2.2 0)), ((pr kk).1 1, .inr (4, [.ref ((pr kk).1 5), .ref ((pr kk).1 6)])), ((pr kk).1 5, aI E 10 ((pr kk).2.2.2 1)), ((pr kk).1 6, aI E 10 ((pr kk).2.2.2 2)), ((pr kk).1 2, .inr (7, [.ref ((pr kk).1 7), .ref ((pr kk).1 8), .int (nI ((pr kk).1 15))])), ((pr kk).1 7, aI E 7 ((pr kk).2.2.2 3)), ((pr kk).1 8, aI E 7 ((pr kk).2.2.2 4)), ((pr kk).1 3, .inr (2, [.ref ((pr kk).1 9), .ref ((pr kk).1 10), .ref ((pr kk).1 11), .int (nI ((pr kk).1 16))])), ((pr kk).1 9, aI E 6 ((pr kk).2.2.2 5)), ((pr kk).1 10, aI E 6 ((pr kk).2.2.2 6)), ((pr kk).1 11, aZ E 6 ((pr kk).2.2.2 7)), ((pr kk).1 4, aI E 6 ((pr kk).2.2.2 8))]) hap (fun q9 h9 => List.mem_append_right _ (rowsW_mem (E := E) (ra := ra) (pr := pr) (hci _ _ o7) q9 h9))
          have hR0 := xmore (L := [(ra kk, .inr (5, [.int ((pr kk).2.1 0), .int (nI ((pr kk).1 17)), .int ((pr kk).2.1 1), .long ((pr kk).2.2.1), .ref ((pr kk).1 0), .int (nI ((pr kk).1 12)), .ref ((pr kk).1 1), .ref ((pr kk).1 2), .ref ((pr kk).1 3), .ref ((pr kk).1 4), .int (nI ((pr kk).1 13)), .int (nI ((pr kk).1 14)), .int ((pr kk).2.1 2)])), ((pr kk).1 0, aB E 16 ((pr kk).2.2.2 0)), ((pr kk).1 1, .inr (4, [.ref ((pr kk).1 5), .ref ((pr kk).1 6)])), ((pr kk).1 5, aI E 10 ((pr kk).2.2.2 1)), ((pr kk).1 6, aI E 10 ((pr kk).2.2.2 2)), ((pr kk).1 2, .inr (7, [.ref ((pr kk).1 7), .ref ((pr kk).1 8), .int (nI ((pr kk).1 15))])), ((pr kk).1 7, aI E 7 ((pr kk).2.2.2 3)), ((pr kk).1 8, aI E 7 ((pr kk).2.2.2 4)), ((pr kk).1 3, .inr (2, [.ref ((pr kk).1 9), .ref ((pr kk).1 10), .ref ((pr kk).1 11), .int (nI ((pr kk).1 16))])), ((pr kk).1 9, aI E 6 ((pr kk).2.2.2 5)), ((pr kk).1 10, aI E 6 ((pr kk).2.2.2 6)), ((pr kk).1 11, aZ E 6 ((pr kk).2.2.2 7)), ((pr kk).1 4, aI E 6 ((pr kk).2.2.2 8))]) hR0 (fun q9 h9 => List.mem_append_right _ (rowsW_mem (E := E) (ra := ra) (pr := pr) (hci _ _ o7) q9 h9))
          have hap : ∀ q ∈ ([(ra kk, .inr (5, [.int ((pr kk).2.1 0), .int (nI ((pr kk).1 17)), .int ((pr kk).2.1 1), .long ((pr kk).2.2.1), .ref ((pr kk).1 0), .int (nI ((pr kk).1 12)), .ref ((pr kk).1 1), .ref ((pr kk).1 2), .ref ((pr kk).1 3), .ref ((pr kk).1 4), .int (nI ((pr kk).1 13)), .int (nI ((pr kk).1 14)), .int ((pr kk).2.1 2)])), ((pr kk).1 0, aB E 16 ((pr kk).2.2.2 0)), ((pr kk).1 1, .inr (4, [.ref ((pr kk).1 5), .ref ((pr kk).1 6)])), ((pr kk).1 5, aI E 10 ((pr kk).2.2.2 1)), ((pr kk).1 6, aI E 10 ((pr kk).2.2.2 2)), ((pr kk).1 2, .inr (7, [.ref ((pr kk).1 7), .ref ((pr kk).1 8), .int (nI ((pr kk).1 15))])), ((pr kk).1 7, aI E 7 ((pr kk).2.2.2 3)), ((pr kk).1 8, aI E 7 ((pr kk).2.2.2 4)), ((pr kk).1 3, .inr (2, [.ref ((pr kk).1 9), .ref ((pr kk).1 10), .ref ((pr kk).1 11), .int (nI ((pr kk).1 16))])), ((pr kk).1 9, aI E 6 ((pr kk).2.2.2 5)), ((pr kk).1 10, aI E 6 ((pr kk).2.2.2 6)), ((pr kk).1 11, aZ E 6 ((pr kk).2.2.2 7)), ((pr kk).1 4, aI E 6 ((pr kk).2.2.2 8)), (ra i, .inr (5, [.int ((pr i).2.1 0), .int (nI ((pr i).1 17)), .int ((pr i).2.1 1), .long ((pr i).2.2.1), .ref ((pr i).1 0), .int (nI ((pr i).1 12)), .ref ((pr i).1 1), .ref ((pr i).1 2), .ref ((pr i).1 3), .ref ((pr i).1 4), .int (nI ((pr i).1 13)), .int (nI ((pr i).1 14)), .int ((pr i).2.1 2)])), ((pr i).1 0, aB E 16 ((pr i).2.2.2 0)), ((pr i).1 1, .inr (4, [.ref ((pr i).1 5), .ref ((pr i).1 6)])), ((pr i).1 5, aI E 10 ((pr i).2.2.2 1)), ((pr i).1 6, aI E 10 ((pr i).2.2.2 2)), ((pr i).1 2, .inr (7, [.ref ((pr i).1 7), .ref ((pr i).1 8), .int (nI ((pr i).1 15))])), ((pr i).1 7, aI E 7 ((pr i).2.2.2 3)), ((pr i).1 8, aI E 7 ((pr i).2.2.2 4)), ((pr i).1 3, .inr (2, [.ref ((pr i).1 9), .ref ((pr i).1 10), .ref ((pr i).1 11), .int (nI ((pr i).1 16))])), ((pr i).1 9, aI E 6 ((pr i).2.2.2 5)), ((pr i).1 10, aI E 6 ((pr i).2.2.2 6)), ((pr i).1 11, aZ E 6 ((pr i).2.2.2 7)), ((pr i).1 4, aI E 6 ((pr i).2.2.2 8)), (c0, .inr (1, [.ref cr, .int rev, .int sea])), (cr, aR E 10 (fun j => (ci j).map ra))] ++ rowsW E N ra pr), ¬ A q.1 := hap
          have hR0 : va_P E.1 vwCl ([(ra kk, .inr (5, [.int ((pr kk).2.1 0), .int (nI ((pr kk).1 17)), .int ((pr kk).2.1 1), .long ((pr kk).2.2.1), .ref ((pr kk).1 0), .int (nI ((pr kk).1 12)), .ref ((pr kk).1 1), .ref ((pr kk).1 2), .ref ((pr kk).1 3), .ref ((pr kk).1 4), .int (nI ((pr kk).1 13)), .int (nI ((pr kk).1 14)), .int ((pr kk).2.1 2)])), ((pr kk).1 0, aB E 16 ((pr kk).2.2.2 0)), ((pr kk).1 1, .inr (4, [.ref ((pr kk).1 5), .ref ((pr kk).1 6)])), ((pr kk).1 5, aI E 10 ((pr kk).2.2.2 1)), ((pr kk).1 6, aI E 10 ((pr kk).2.2.2 2)), ((pr kk).1 2, .inr (7, [.ref ((pr kk).1 7), .ref ((pr kk).1 8), .int (nI ((pr kk).1 15))])), ((pr kk).1 7, aI E 7 ((pr kk).2.2.2 3)), ((pr kk).1 8, aI E 7 ((pr kk).2.2.2 4)), ((pr kk).1 3, .inr (2, [.ref ((pr kk).1 9), .ref ((pr kk).1 10), .ref ((pr kk).1 11), .int (nI ((pr kk).1 16))])), ((pr kk).1 9, aI E 6 ((pr kk).2.2.2 5)), ((pr kk).1 10, aI E 6 ((pr kk).2.2.2 6)), ((pr kk).1 11, aZ E 6 ((pr kk).2.2.2 7)), ((pr kk).1 4, aI E 6 ((pr kk).2.2.2 8)), (ra i, .inr (5, [.int ((pr i).2.1 0), .int (nI ((pr i).1 17)), .int ((pr i).2.1 1), .long ((pr i).2.2.1), .ref ((pr i).1 0), .int (nI ((pr i).1 12)), .ref ((pr i).1 1), .ref ((pr i).1 2), .ref ((pr i).1 3), .ref ((pr i).1 4), .int (nI ((pr i).1 13)), .int (nI ((pr i).1 14)), .int ((pr i).2.1 2)])), ((pr i).1 0, aB E 16 ((pr i).2.2.2 0)), ((pr i).1 1, .inr (4, [.ref ((pr i).1 5), .ref ((pr i).1 6)])), ((pr i).1 5, aI E 10 ((pr i).2.2.2 1)), ((pr i).1 6, aI E 10 ((pr i).2.2.2 2)), ((pr i).1 2, .inr (7, [.ref ((pr i).1 7), .ref ((pr i).1 8), .int (nI ((pr i).1 15))])), ((pr i).1 7, aI E 7 ((pr i).2.2.2 3)), ((pr i).1 8, aI E 7 ((pr i).2.2.2 4)), ((pr i).1 3, .inr (2, [.ref ((pr i).1 9), .ref ((pr i).1 10), .ref ((pr i).1 11), .int (nI ((pr i).1 16))])), ((pr i).1 9, aI E 6 ((pr i).2.2.2 5)), ((pr i).1 10, aI E 6 ((pr i).2.2.2 6)), ((pr i).1 11, aZ E 6 ((pr i).2.2.2 7)), ((pr i).1 4, aI E 6 ((pr i).2.2.2 8)), (c0, .inr (1, [.ref cr, .int rev, .int sea])), (cr, aR E 10 (fun j => (ci j).map ra))] ++ rowsW E N ra pr) s.heap := hR0
          have hltkk : kk < N := hci _ _ o7
          obtain ⟨o12kk, o13kk, o14kk, o15kk, o16kk, o17kk⟩ := hok kk (hci _ _ o7)
          refine lv_astore (lv' := [(4, .ref (ra kk)), (0, .ref c0), (1, .ref (ra i)), (2, .long t)]) hx hb dX0_isToldAsNeeded_34 hl (by decide) rfl (fun ls hl => ?_)
          refine lv_aload hx hb dX0_isToldAsNeeded_36 (lv_at hl 0 rfl) ?_
          refine lv_ifnull hx hb dX0_isToldAsNeeded_38 ?_
          refine lv_aload hx hb dX0_isToldAsNeeded_41 (lv_at hl 0 rfl) ?_
          refine lv_lload_n hx hb dX0_isToldAsNeeded_43 rfl (lv_at hl 3 rfl) ?_
          have hP := hP.sub (ws' := [] ++ []) [] rfl
          have hD := hD.sub (ws' := [] ++ []) [] (by decide) rfl
          refine xci (va_runV (As := [.long t]) (rest := []) ⟨hx, hb, hml, hown, hts⟩ (kX4_isAliveAt l E (ra kk) ((pr kk).2.1 0) (nI ((pr kk).1 17)) ((pr kk).2.1 1) ((pr kk).2.2.1) ((pr kk).1 0) ((pr kk).1 12) ((pr kk).1 1) ((pr kk).1 2) ((pr kk).1 3) ((pr kk).1 4) ((pr kk).1 13) (nI ((pr kk).1 14)) ((pr kk).2.1 2) t  H.size) (cwV 1 hts gX0_isToldAsNeeded_X4_isAliveAt rfl rfl rfl (by decide +kernel) ⟨Nat.le_of_ble_eq_true rfl, Nat.le_of_ble_eq_true rfl⟩) ⟨CP.blind, (va_recv hev.1 (xro hR0 hap hS) (ci := 5) (q0 := 0) rfl rfl), (xpre hev hz hA hP hD hS hR0 hap [0] rfl)⟩ rfl rfl hl.1 rfl (lv_room (Nat.le_of_ble_eq_true rfl)) dX0_isToldAsNeeded_44 ⟨Nat.le_of_ble_eq_true rfl, Nat.le_of_ble_eq_true rfl⟩) hP hD hS hA (fun r8 w9 H locs h10 hP hD hS => ?_)
          obtain ⟨rfl, rfl, h10⟩ := h10
          try dsimp only at h10
          have hP : va_P E.1 vwCl [] H := hP
          have hD : va_D A [] := hD
          refine lv_if_eq (tgt := 73) hx hb dX0_isToldAsNeeded_47 (by decide) (fun c11 => ?_) (fun c11 => ?_)
          · skip
            have kc11 := b1_0.mp c11
            refine lv_iconst (v := 0) hx hb dX0_isToldAsNeeded_73 (by decide) ?_
            refine xrz hx hb hr hlocks (by first | rfl | decide | exact b1_narrow _) hP hD hS ⟨rfl, ?_, ?_⟩ dX0_isToldAsNeeded_74
            · exact (b1_f (fun h9 => h9.elim kc1 (fun h9 => h9.elim kc2 (fun ⟨k9, q1, q2, j9, q3, q4⟩ => by rw [hif, o7] at q1; cases q1; exact kc11 q2)))).symm
            · trivial
          · skip
            have kc11 := b1_n.mp c11
            refine lv_aload hx hb dX0_isToldAsNeeded_50 (lv_at hl 0 rfl) ?_
            refine va_getN (D := E.1) (ci := 5) (v := .ref ((pr kk).1 2)) (C := RX4) (T := TX4) (N := 13) hx hb hts hiX4 hown hev.1 (xro hR0 hap hS) 0 rfl rfl 7 (by decide) (xNF14 hev.2.1) (fun _ h9 => h9) rfl dX0_isToldAsNeeded_52 ?_
            refine lv_aload_n hx hb dX0_isToldAsNeeded_55 rfl (lv_at hl 2 rfl) ?_
            refine va_getN (D := E.1) (ci := 5) (v := .int (nI ((pr i).1 17))) (C := RX4) (T := TX4) (N := 13) hx hb hts hiX4 hown hev.1 (xro hR0 hap hS) 13 rfl rfl 1 (by decide) (xNF7 hev.2.1) (fun _ h9 => h9) rfl dX0_isToldAsNeeded_56 ?_
            have hP := hP.sub (ws' := [] ++ []) [] rfl
            have hD := hD.sub (ws' := [] ++ []) [] (by decide) rfl
            refine xci (va_runV (As := [.int (nI ((pr i).1 17))]) (rest := []) ⟨hx, hb, hml, hown, hts⟩ (kX6_versionOf l E ((pr kk).1 2) ((pr kk).1 7) ((pr kk).1 8) ((pr kk).1 15) ((pr kk).2.2.2 3) ((pr kk).2.2.2 4) (nI ((pr i).1 17)) (by first | assumption | omega) H.size) (cwV 1 hts gX0_isToldAsNeeded_X6_versionOf rfl rfl rfl (by decide +kernel) ⟨Nat.le_of_ble_eq_true rfl, Nat.le_of_ble_eq_true rfl⟩) ⟨CP.blind, (va_recv hev.1 (xro hR0 hap hS) (ci := 7) (q0 := 5) rfl rfl), (xpre hev hz hA hP hD hS hR0 hap [5, 6, 7] rfl)⟩ rfl rfl hl.1 rfl (lv_room (Nat.le_of_ble_eq_true rfl)) dX0_isToldAsNeeded_59 ⟨Nat.le_of_ble_eq_true rfl, Nat.le_of_ble_eq_true rfl⟩) hP hD hS hA (fun r12 w13 H locs h14 hP hD hS => ?_)
            obtain ⟨j15, rfl, rfl, h14⟩ := h14
            try dsimp only at h14
            have hP : va_P E.1 vwCl [] H := hP
            have hD : va_D A [] := hD
            refine lv_aload_n hx hb dX0_isToldAsNeeded_62 rfl (lv_at hl 2 rfl) ?_
            refine va_getN (D := E.1) (ci := 5) (v := .int ((pr i).2.1 1)) (C := RX4) (T := TX4) (N := 13) hx hb hts hiX4 hown hev.1 (xro hR0 hap hS) 13 rfl rfl 2 (by decide) (xNF9 hev.2.1) (fun _ h9 => h9) rfl dX0_isToldAsNeeded_63 ?_
            refine lv_icmp_ne (tgt := 73) hx hb dX0_isToldAsNeeded_66 (by decide) (fun c16 => ?_) (fun c16 => ?_)
            · skip
              refine lv_iconst (v := 0) hx hb dX0_isToldAsNeeded_73 (by decide) ?_
              refine xrz hx hb hr hlocks (by first | rfl | decide | exact b1_narrow _) hP hD hS ⟨rfl, ?_, ?_⟩ dX0_isToldAsNeeded_74
              · exact (b1_f (fun h9 => h9.elim kc1 (fun h9 => h9.elim kc2 (fun ⟨k9, q1, q2, j9, q3, q4⟩ => by rw [hif, o7] at q1; cases q1; rw [isPl_u q3 h14] at q4; exact c16 q4)))).symm
              · trivial
            · skip
              refine lv_iconst (v := 1) hx hb dX0_isToldAsNeeded_69 (by decide) ?_
              refine lv_goto (tgt := 74) hx hb dX0_isToldAsNeeded_70 (by decide) ?_
              refine xrz hx hb hr hlocks (by first | rfl | decide | exact b1_narrow _) hP hD hS ⟨rfl, ?_, ?_⟩ dX0_isToldAsNeeded_74
              · exact (b1_t (Or.inr (Or.inr ⟨kk, by rw [hif]; exact o7, kc11, j15, h14, c16⟩))).symm
              · trivial
      · skip
        have kc3 : ((pr i).1 17) = 2 := (nI_eq (a := ((pr i).1 17)) (b := 2) (by omega) (by omega)).mp c3
        refine lv_iconst (v := 1) hx hb dX0_isToldAsNeeded_26 (by decide) ?_
        refine lv_goto (tgt := 31) hx hb dX0_isToldAsNeeded_27 (by decide) ?_
        have hif : (if (pr i).1 17 = 2 then 1 else 2) = 1 := if_pos kc3
        have hP := hP.sub (ws' := [] ++ []) [] rfl
        have hD := hD.sub (ws' := [] ++ []) [] (by decide) rfl
        refine xcr (va_runV (As := [.int 1]) (rest := []) ⟨hx, hb, hml, hown, hts⟩ (kX0_currentOfJ l E c0 cr rev sea ci ra 1 (by first | assumption | omega) H.size) (cwV 1 hts gX0_isToldAsNeeded_X0_currentOf rfl rfl rfl (by decide +kernel) ⟨Nat.le_of_ble_eq_true rfl, Nat.le_of_ble_eq_true rfl⟩) ⟨CP.blind, (va_recv hev.1 (xro hR0 hap hS) (ci := 1) (q0 := 13) rfl rfl), (xpre hev hz hA hP hD hS hR0 hap [13, 14] rfl)⟩ rfl rfl hl.1 rfl (lv_room (Nat.le_of_ble_eq_true rfl)) dX0_isToldAsNeeded_31 ⟨Nat.le_of_ble_eq_true rfl, Nat.le_of_ble_eq_true rfl⟩) hP hD hS hA (fun r17 w18 H locs h19 hP hD hS => ?_)
        obtain ⟨rfl, rfl, h19⟩ := h19
        try dsimp only at h19
        have hP : va_P E.1 vwCl [] H := hP
        have hD : va_D A [] := hD
        cases o20 : ci 1 with
        | none =>
          refine lv_astoreN (lv' := [(4, .null), (0, .ref c0), (1, .ref (ra i)), (2, .long t)]) hx hb dX0_isToldAsNeeded_34 hl (by decide) rfl (fun ls hl => ?_)
          refine lv_aloadN hx hb dX0_isToldAsNeeded_36 (lv_at hl 0 rfl) ?_
          refine lv_ifnullN (tgt := 73) hx hb dX0_isToldAsNeeded_38 (by decide) ?_
          refine lv_iconst (v := 0) hx hb dX0_isToldAsNeeded_73 (by decide) ?_
          refine xrz hx hb hr hlocks (by first | rfl | decide | exact b1_narrow _) hP hD hS ⟨rfl, ?_, ?_⟩ dX0_isToldAsNeeded_74
          · exact (b1_f (fun h9 => h9.elim kc1 (fun h9 => h9.elim kc2 (fun ⟨k9, q1, q2, j9, q3, q4⟩ => by rw [hif, o20] at q1; cases q1)))).symm
          · trivial
        | some kk =>
          have hap := xmoreA (L := [(ra kk, .inr (5, [.int ((pr kk).2.1 0), .int (nI ((pr kk).1 17)), .int ((pr kk).2.1 1), .long ((pr kk).2.2.1), .ref ((pr kk).1 0), .int (nI ((pr kk).1 12)), .ref ((pr kk).1 1), .ref ((pr kk).1 2), .ref ((pr kk).1 3), .ref ((pr kk).1 4), .int (nI ((pr kk).1 13)), .int (nI ((pr kk).1 14)), .int ((pr kk).2.1 2)])), ((pr kk).1 0, aB E 16 ((pr kk).2.2.2 0)), ((pr kk).1 1, .inr (4, [.ref ((pr kk).1 5), .ref ((pr kk).1 6)])), ((pr kk).1 5, aI E 10 ((pr kk).2.2.2 1)), ((pr kk).1 6, aI E 10 ((pr kk).2.2.2 2)), ((pr kk).1 2, .inr (7, [.ref ((pr kk).1 7), .ref ((pr kk).1 8), .int (nI ((pr kk).1 15))])), ((pr kk).1 7, aI E 7 ((pr kk).2.2.2 3)), ((pr kk).1 8, aI E 7 ((pr kk).2.2.2 4)), ((pr kk).1 3, .inr (2, [.ref ((pr kk).1 9), .ref ((pr kk).1 10), .ref ((pr kk).1 11), .int (nI ((pr kk).1 16))])), ((pr kk).1 9, aI E 6 ((pr kk).2.2.2 5)), ((pr kk).1 10, aI E 6 ((pr kk).2.2.2 6)), ((pr kk).1 11, aZ E 6 ((pr kk).2.2.2 7)), ((pr kk).1 4, aI E 6 ((pr kk).2.2.2 8))]) hap (fun q9 h9 => List.mem_append_right _ (rowsW_mem (E := E) (ra := ra) (pr := pr) (hci _ _ o20) q9 h9))
          have hR0 := xmore (L := [(ra kk, .inr (5, [.int ((pr kk).2.1 0), .int (nI ((pr kk).1 17)), .int ((pr kk).2.1 1), .long ((pr kk).2.2.1), .ref ((pr kk).1 0), .int (nI ((pr kk).1 12)), .ref ((pr kk).1 1), .ref ((pr kk).1 2), .ref ((pr kk).1 3), .ref ((pr kk).1 4), .int (nI ((pr kk).1 13)), .int (nI ((pr kk).1 14)), .int ((pr kk).2.1 2)])), ((pr kk).1 0, aB E 16 ((pr kk).2.2.2 0)), ((pr kk).1 1, .inr (4, [.ref ((pr kk).1 5), .ref ((pr kk).1 6)])), ((pr kk).1 5, aI E 10 ((pr kk).2.2.2 1)), ((pr kk).1 6, aI E 10 ((pr kk).2.2.2 2)), ((pr kk).1 2, .inr (7, [.ref ((pr kk).1 7), .ref ((pr kk).1 8), .int (nI ((pr kk).1 15))])), ((pr kk).1 7, aI E 7 ((pr kk).2.2.2 3)), ((pr kk).1 8, aI E 7 ((pr kk).2.2.2 4)), ((pr kk).1 3, .inr (2, [.ref ((pr kk).1 9), .ref ((pr kk).1 10), .ref ((pr kk).1 11), .int (nI ((pr kk).1 16))])), ((pr kk).1 9, aI E 6 ((pr kk).2.2.2 5)), ((pr kk).1 10, aI E 6 ((pr kk).2.2.2 6)), ((pr kk).1 11, aZ E 6 ((pr kk).2.2.2 7)), ((pr kk).1 4, aI E 6 ((pr kk).2.2.2 8))]) hR0 (fun q9 h9 => List.mem_append_right _ (rowsW_mem (E := E) (ra := ra) (pr := pr) (hci _ _ o20) q9 h9))
          have hap : ∀ q ∈ ([(ra kk, .inr (5, [.int ((pr kk).2.1 0), .int (nI ((pr kk).1 17)), .int ((pr kk).2.1 1), .long ((pr kk).2.2.1), .ref ((pr kk).1 0), .int (nI ((pr kk).1 12)), .ref ((pr kk).1 1), .ref ((pr kk).1 2), .ref ((pr kk).1 3), .ref ((pr kk).1 4), .int (nI ((pr kk).1 13)), .int (nI ((pr kk).1 14)), .int ((pr kk).2.1 2)])), ((pr kk).1 0, aB E 16 ((pr kk).2.2.2 0)), ((pr kk).1 1, .inr (4, [.ref ((pr kk).1 5), .ref ((pr kk).1 6)])), ((pr kk).1 5, aI E 10 ((pr kk).2.2.2 1)), ((pr kk).1 6, aI E 10 ((pr kk).2.2.2 2)), ((pr kk).1 2, .inr (7, [.ref ((pr kk).1 7), .ref ((pr kk).1 8), .int (nI ((pr kk).1 15))])), ((pr kk).1 7, aI E 7 ((pr kk).2.2.2 3)), ((pr kk).1 8, aI E 7 ((pr kk).2.2.2 4)), ((pr kk).1 3, .inr (2, [.ref ((pr kk).1 9), .ref ((pr kk).1 10), .ref ((pr kk).1 11), .int (nI ((pr kk).1 16))])), ((pr kk).1 9, aI E 6 ((pr kk).2.2.2 5)), ((pr kk).1 10, aI E 6 ((pr kk).2.2.2 6)), ((pr kk).1 11, aZ E 6 ((pr kk).2.2.2 7)), ((pr kk).1 4, aI E 6 ((pr kk).2.2.2 8)), (ra i, .inr (5, [.int ((pr i).2.1 0), .int (nI ((pr i).1 17)), .int ((pr i).2.1 1), .long ((pr i).2.2.1), .ref ((pr i).1 0), .int (nI ((pr i).1 12)), .ref ((pr i).1 1), .ref ((pr i).1 2), .ref ((pr i).1 3), .ref ((pr i).1 4), .int (nI ((pr i).1 13)), .int (nI ((pr i).1 14)), .int ((pr i).2.1 2)])), ((pr i).1 0, aB E 16 ((pr i).2.2.2 0)), ((pr i).1 1, .inr (4, [.ref ((pr i).1 5), .ref ((pr i).1 6)])), ((pr i).1 5, aI E 10 ((pr i).2.2.2 1)), ((pr i).1 6, aI E 10 ((pr i).2.2.2 2)), ((pr i).1 2, .inr (7, [.ref ((pr i).1 7), .ref ((pr i).1 8), .int (nI ((pr i).1 15))])), ((pr i).1 7, aI E 7 ((pr i).2.2.2 3)), ((pr i).1 8, aI E 7 ((pr i).2.2.2 4)), ((pr i).1 3, .inr (2, [.ref ((pr i).1 9), .ref ((pr i).1 10), .ref ((pr i).1 11), .int (nI ((pr i).1 16))])), ((pr i).1 9, aI E 6 ((pr i).2.2.2 5)), ((pr i).1 10, aI E 6 ((pr i).2.2.2 6)), ((pr i).1 11, aZ E 6 ((pr i).2.2.2 7)), ((pr i).1 4, aI E 6 ((pr i).2.2.2 8)), (c0, .inr (1, [.ref cr, .int rev, .int sea])), (cr, aR E 10 (fun j => (ci j).map ra))] ++ rowsW E N ra pr), ¬ A q.1 := hap
          have hR0 : va_P E.1 vwCl ([(ra kk, .inr (5, [.int ((pr kk).2.1 0), .int (nI ((pr kk).1 17)), .int ((pr kk).2.1 1), .long ((pr kk).2.2.1), .ref ((pr kk).1 0), .int (nI ((pr kk).1 12)), .ref ((pr kk).1 1), .ref ((pr kk).1 2), .ref ((pr kk).1 3), .ref ((pr kk).1 4), .int (nI ((pr kk).1 13)), .int (nI ((pr kk).1 14)), .int ((pr kk).2.1 2)])), ((pr kk).1 0, aB E 16 ((pr kk).2.2.2 0)), ((pr kk).1 1, .inr (4, [.ref ((pr kk).1 5), .ref ((pr kk).1 6)])), ((pr kk).1 5, aI E 10 ((pr kk).2.2.2 1)), ((pr kk).1 6, aI E 10 ((pr kk).2.2.2 2)), ((pr kk).1 2, .inr (7, [.ref ((pr kk).1 7), .ref ((pr kk).1 8), .int (nI ((pr kk).1 15))])), ((pr kk).1 7, aI E 7 ((pr kk).2.2.2 3)), ((pr kk).1 8, aI E 7 ((pr kk).2.2.2 4)), ((pr kk).1 3, .inr (2, [.ref ((pr kk).1 9), .ref ((pr kk).1 10), .ref ((pr kk).1 11), .int (nI ((pr kk).1 16))])), ((pr kk).1 9, aI E 6 ((pr kk).2.2.2 5)), ((pr kk).1 10, aI E 6 ((pr kk).2.2.2 6)), ((pr kk).1 11, aZ E 6 ((pr kk).2.2.2 7)), ((pr kk).1 4, aI E 6 ((pr kk).2.2.2 8)), (ra i, .inr (5, [.int ((pr i).2.1 0), .int (nI ((pr i).1 17)), .int ((pr i).2.1 1), .long ((pr i).2.2.1), .ref ((pr i).1 0), .int (nI ((pr i).1 12)), .ref ((pr i).1 1), .ref ((pr i).1 2), .ref ((pr i).1 3), .ref ((pr i).1 4), .int (nI ((pr i).1 13)), .int (nI ((pr i).1 14)), .int ((pr i).2.1 2)])), ((pr i).1 0, aB E 16 ((pr i).2.2.2 0)), ((pr i).1 1, .inr (4, [.ref ((pr i).1 5), .ref ((pr i).1 6)])), ((pr i).1 5, aI E 10 ((pr i).2.2.2 1)), ((pr i).1 6, aI E 10 ((pr i).2.2.2 2)), ((pr i).1 2, .inr (7, [.ref ((pr i).1 7), .ref ((pr i).1 8), .int (nI ((pr i).1 15))])), ((pr i).1 7, aI E 7 ((pr i).2.2.2 3)), ((pr i).1 8, aI E 7 ((pr i).2.2.2 4)), ((pr i).1 3, .inr (2, [.ref ((pr i).1 9), .ref ((pr i).1 10), .ref ((pr i).1 11), .int (nI ((pr i).1 16))])), ((pr i).1 9, aI E 6 ((pr i).2.2.2 5)), ((pr i).1 10, aI E 6 ((pr i).2.2.2 6)), ((pr i).1 11, aZ E 6 ((pr i).2.2.2 7)), ((pr i).1 4, aI E 6 ((pr i).2.2.2 8)), (c0, .inr (1, [.ref cr, .int rev, .int sea])), (cr, aR E 10 (fun j => (ci j).map ra))] ++ rowsW E N ra pr) s.heap := hR0
          have hltkk : kk < N := hci _ _ o20
          obtain ⟨o12kk, o13kk, o14kk, o15kk, o16kk, o17kk⟩ := hok kk (hci _ _ o20)
          refine lv_astore (lv' := [(4, .ref (ra kk)), (0, .ref c0), (1, .ref (ra i)), (2, .long t)]) hx hb dX0_isToldAsNeeded_34 hl (by decide) rfl (fun ls hl => ?_)
          refine lv_aload hx hb dX0_isToldAsNeeded_36 (lv_at hl 0 rfl) ?_
          refine lv_ifnull hx hb dX0_isToldAsNeeded_38 ?_
          refine lv_aload hx hb dX0_isToldAsNeeded_41 (lv_at hl 0 rfl) ?_
          refine lv_lload_n hx hb dX0_isToldAsNeeded_43 rfl (lv_at hl 3 rfl) ?_
          have hP := hP.sub (ws' := [] ++ []) [] rfl
          have hD := hD.sub (ws' := [] ++ []) [] (by decide) rfl
          refine xci (va_runV (As := [.long t]) (rest := []) ⟨hx, hb, hml, hown, hts⟩ (kX4_isAliveAt l E (ra kk) ((pr kk).2.1 0) (nI ((pr kk).1 17)) ((pr kk).2.1 1) ((pr kk).2.2.1) ((pr kk).1 0) ((pr kk).1 12) ((pr kk).1 1) ((pr kk).1 2) ((pr kk).1 3) ((pr kk).1 4) ((pr kk).1 13) (nI ((pr kk).1 14)) ((pr kk).2.1 2) t  H.size) (cwV 1 hts gX0_isToldAsNeeded_X4_isAliveAt rfl rfl rfl (by decide +kernel) ⟨Nat.le_of_ble_eq_true rfl, Nat.le_of_ble_eq_true rfl⟩) ⟨CP.blind, (va_recv hev.1 (xro hR0 hap hS) (ci := 5) (q0 := 0) rfl rfl), (xpre hev hz hA hP hD hS hR0 hap [0] rfl)⟩ rfl rfl hl.1 rfl (lv_room (Nat.le_of_ble_eq_true rfl)) dX0_isToldAsNeeded_44 ⟨Nat.le_of_ble_eq_true rfl, Nat.le_of_ble_eq_true rfl⟩) hP hD hS hA (fun r21 w22 H locs h23 hP hD hS => ?_)
          obtain ⟨rfl, rfl, h23⟩ := h23
          try dsimp only at h23
          have hP : va_P E.1 vwCl [] H := hP
          have hD : va_D A [] := hD
          refine lv_if_eq (tgt := 73) hx hb dX0_isToldAsNeeded_47 (by decide) (fun c24 => ?_) (fun c24 => ?_)
          · skip
            have kc24 := b1_0.mp c24
            refine lv_iconst (v := 0) hx hb dX0_isToldAsNeeded_73 (by decide) ?_
            refine xrz hx hb hr hlocks (by first | rfl | decide | exact b1_narrow _) hP hD hS ⟨rfl, ?_, ?_⟩ dX0_isToldAsNeeded_74
            · exact (b1_f (fun h9 => h9.elim kc1 (fun h9 => h9.elim kc2 (fun ⟨k9, q1, q2, j9, q3, q4⟩ => by rw [hif, o20] at q1; cases q1; exact kc24 q2)))).symm
            · trivial
          · skip
            have kc24 := b1_n.mp c24
            refine lv_aload hx hb dX0_isToldAsNeeded_50 (lv_at hl 0 rfl) ?_
            refine va_getN (D := E.1) (ci := 5) (v := .ref ((pr kk).1 2)) (C := RX4) (T := TX4) (N := 13) hx hb hts hiX4 hown hev.1 (xro hR0 hap hS) 0 rfl rfl 7 (by decide) (xNF14 hev.2.1) (fun _ h9 => h9) rfl dX0_isToldAsNeeded_52 ?_
            refine lv_aload_n hx hb dX0_isToldAsNeeded_55 rfl (lv_at hl 2 rfl) ?_
            refine va_getN (D := E.1) (ci := 5) (v := .int (nI ((pr i).1 17))) (C := RX4) (T := TX4) (N := 13) hx hb hts hiX4 hown hev.1 (xro hR0 hap hS) 13 rfl rfl 1 (by decide) (xNF7 hev.2.1) (fun _ h9 => h9) rfl dX0_isToldAsNeeded_56 ?_
            have hP := hP.sub (ws' := [] ++ []) [] rfl
            have hD := hD.sub (ws' := [] ++ []) [] (by decide) rfl
            refine xci (va_runV (As := [.int (nI ((pr i).1 17))]) (rest := []) ⟨hx, hb, hml, hown, hts⟩ (kX6_versionOf l E ((pr kk).1 2) ((pr kk).1 7) ((pr kk).1 8) ((pr kk).1 15) ((pr kk).2.2.2 3) ((pr kk).2.2.2 4) (nI ((pr i).1 17)) (by first | assumption | omega) H.size) (cwV 1 hts gX0_isToldAsNeeded_X6_versionOf rfl rfl rfl (by decide +kernel) ⟨Nat.le_of_ble_eq_true rfl, Nat.le_of_ble_eq_true rfl⟩) ⟨CP.blind, (va_recv hev.1 (xro hR0 hap hS) (ci := 7) (q0 := 5) rfl rfl), (xpre hev hz hA hP hD hS hR0 hap [5, 6, 7] rfl)⟩ rfl rfl hl.1 rfl (lv_room (Nat.le_of_ble_eq_true rfl)) dX0_isToldAsNeeded_59 ⟨Nat.le_of_ble_eq_true rfl, Nat.le_of_ble_eq_true rfl⟩) hP hD hS hA (fun r25 w26 H locs h27 hP hD hS => ?_)
            obtain ⟨j28, rfl, rfl, h27⟩ := h27
            try dsimp only at h27
            have hP : va_P E.1 vwCl [] H := hP
            have hD : va_D A [] := hD
            refine lv_aload_n hx hb dX0_isToldAsNeeded_62 rfl (lv_at hl 2 rfl) ?_
            refine va_getN (D := E.1) (ci := 5) (v := .int ((pr i).2.1 1)) (C := RX4) (T := TX4) (N := 13) hx hb hts hiX4 hown hev.1 (xro hR0 hap hS) 13 rfl rfl 2 (by decide) (xNF9 hev.2.1) (fun _ h9 => h9) rfl dX0_isToldAsNeeded_63 ?_
            refine lv_icmp_ne (tgt := 73) hx hb dX0_isToldAsNeeded_66 (by decide) (fun c29 => ?_) (fun c29 => ?_)
            · skip
              refine lv_iconst (v := 0) hx hb dX0_isToldAsNeeded_73 (by decide) ?_
              refine xrz hx hb hr hlocks (by first | rfl | decide | exact b1_narrow _) hP hD hS ⟨rfl, ?_, ?_⟩ dX0_isToldAsNeeded_74
              · exact (b1_f (fun h9 => h9.elim kc1 (fun h9 => h9.elim kc2 (fun ⟨k9, q1, q2, j9, q3, q4⟩ => by rw [hif, o20] at q1; cases q1; rw [isPl_u q3 h27] at q4; exact c29 q4)))).symm
              · trivial
            · skip
              refine lv_iconst (v := 1) hx hb dX0_isToldAsNeeded_69 (by decide) ?_
              refine lv_goto (tgt := 74) hx hb dX0_isToldAsNeeded_70 (by decide) ?_
              refine xrz hx hb hr hlocks (by first | rfl | decide | exact b1_narrow _) hP hD hS ⟨rfl, ?_, ?_⟩ dX0_isToldAsNeeded_74
              · exact (b1_t (Or.inr (Or.inr ⟨kk, by rw [hif]; exact o20, kc24, j28, h27, c29⟩))).symm
              · trivial
    · skip
      have kc2 : ((pr i).1 17) = 1 := (nI_eq (a := ((pr i).1 17)) (b := 1) (by omega) (by omega)).mp c2
      refine lv_iconst (v := 1) hx hb dX0_isToldAsNeeded_15 (by decide) ?_
      refine xrz hx hb hr hlocks (by first | rfl | decide | exact b1_narrow _) hP hD hS ⟨rfl, ?_, ?_⟩ dX0_isToldAsNeeded_16
      · exact (b1_t (Or.inr (Or.inl kc2))).symm
      · trivial

abbrev pX0_keepsWhatWasTold (E : xE) (c0 : Nat) (cr : Nat) (rev : Int32) (sea : Int32) (ci : Nat → Option Nat) (N : Nat) (ra : Nat → Nat) (pr : Nat → RowP) (i : Nat) (r : Int32) (w : va_W) : Prop := w = [] ∧ r = b1 (kepP ci pr i) ∧ (True)
set_option maxHeartbeats 4000000 in
set_option maxRecDepth 100000 in
theorem kX0_keepsWhatWasTold (l : Launch) (E : xE) (c0 : Nat) (cr : Nat) (rev : Int32) (sea : Int32) (ci : Nat → Option Nat) (N : Nat) (ra : Nat → Nat) (pr : Nat → RowP) (i : Nat) (hok : ∀ i, i < N → rOk (pr i)) (hci : ∀ j i, ci j = some i → i < N) (hi : i < N) : KT l yX0_keepsWhatWasTold wsX0_keepsWhatWasTold 3 66 0 0 E [] ([(c0, .inr (1, [.ref cr, .int rev, .int sea])), (cr, aR E 10 (fun j => (ci j).map ra))] ++ rowsW E N ra pr) [.ref c0, .ref (ra i)] (QI E (pX0_keepsWhatWasTold E c0 cr rev sea ci N ra pr i)) := by
  refine KT.start (cc := cX0_keepsWhatWasTold) (maxL := 3) (ret := (some .boolean)) (by decide) rfl (Nat.le_of_ble_eq_true rfl) ?_
  intro p e s m below meth c A H hx hb hr hlocks hml hts hown hin hP hR0 hD hap hev hz hA hS ls hl
  have hl : lv_has ls 3 [(0, .ref c0), (1, .ref (ra i))] := hl
  have hiX4 : ∀ w ∈ wsX40, w ∈ wsX0_keepsWhatWasTold := by decide +kernel
  have hap := xmoreA (L := [(ra i, .inr (5, [.int ((pr i).2.1 0), .int (nI ((pr i).1 17)), .int ((pr i).2.1 1), .long ((pr i).2.2.1), .ref ((pr i).1 0), .int (nI ((pr i).1 12)), .ref ((pr i).1 1), .ref ((pr i).1 2), .ref ((pr i).1 3), .ref ((pr i).1 4), .int (nI ((pr i).1 13)), .int (nI ((pr i).1 14)), .int ((pr i).2.1 2)])), ((pr i).1 0, aB E 16 ((pr i).2.2.2 0)), ((pr i).1 1, .inr (4, [.ref ((pr i).1 5), .ref ((pr i).1 6)])), ((pr i).1 5, aI E 10 ((pr i).2.2.2 1)), ((pr i).1 6, aI E 10 ((pr i).2.2.2 2)), ((pr i).1 2, .inr (7, [.ref ((pr i).1 7), .ref ((pr i).1 8), .int (nI ((pr i).1 15))])), ((pr i).1 7, aI E 7 ((pr i).2.2.2 3)), ((pr i).1 8, aI E 7 ((pr i).2.2.2 4)), ((pr i).1 3, .inr (2, [.ref ((pr i).1 9), .ref ((pr i).1 10), .ref ((pr i).1 11), .int (nI ((pr i).1 16))])), ((pr i).1 9, aI E 6 ((pr i).2.2.2 5)), ((pr i).1 10, aI E 6 ((pr i).2.2.2 6)), ((pr i).1 11, aZ E 6 ((pr i).2.2.2 7)), ((pr i).1 4, aI E 6 ((pr i).2.2.2 8))]) hap (fun q9 h9 => List.mem_append_right _ (rowsW_mem (E := E) (ra := ra) (pr := pr) (hi) q9 h9))
  have hR0 := xmore (L := [(ra i, .inr (5, [.int ((pr i).2.1 0), .int (nI ((pr i).1 17)), .int ((pr i).2.1 1), .long ((pr i).2.2.1), .ref ((pr i).1 0), .int (nI ((pr i).1 12)), .ref ((pr i).1 1), .ref ((pr i).1 2), .ref ((pr i).1 3), .ref ((pr i).1 4), .int (nI ((pr i).1 13)), .int (nI ((pr i).1 14)), .int ((pr i).2.1 2)])), ((pr i).1 0, aB E 16 ((pr i).2.2.2 0)), ((pr i).1 1, .inr (4, [.ref ((pr i).1 5), .ref ((pr i).1 6)])), ((pr i).1 5, aI E 10 ((pr i).2.2.2 1)), ((pr i).1 6, aI E 10 ((pr i).2.2.2 2)), ((pr i).1 2, .inr (7, [.ref ((pr i).1 7), .ref ((pr i).1 8), .int (nI ((pr i).1 15))])), ((pr i).1 7, aI E 7 ((pr i).2.2.2 3)), ((pr i).1 8, aI E 7 ((pr i).2.2.2 4)), ((pr i).1 3, .inr (2, [.ref ((pr i).1 9), .ref ((pr i).1 10), .ref ((pr i).1 11), .int (nI ((pr i).1 16))])), ((pr i).1 9, aI E 6 ((pr i).2.2.2 5)), ((pr i).1 10, aI E 6 ((pr i).2.2.2 6)), ((pr i).1 11, aZ E 6 ((pr i).2.2.2 7)), ((pr i).1 4, aI E 6 ((pr i).2.2.2 8))]) hR0 (fun q9 h9 => List.mem_append_right _ (rowsW_mem (E := E) (ra := ra) (pr := pr) (hi) q9 h9))
  have hap : ∀ q ∈ ([(ra i, .inr (5, [.int ((pr i).2.1 0), .int (nI ((pr i).1 17)), .int ((pr i).2.1 1), .long ((pr i).2.2.1), .ref ((pr i).1 0), .int (nI ((pr i).1 12)), .ref ((pr i).1 1), .ref ((pr i).1 2), .ref ((pr i).1 3), .ref ((pr i).1 4), .int (nI ((pr i).1 13)), .int (nI ((pr i).1 14)), .int ((pr i).2.1 2)])), ((pr i).1 0, aB E 16 ((pr i).2.2.2 0)), ((pr i).1 1, .inr (4, [.ref ((pr i).1 5), .ref ((pr i).1 6)])), ((pr i).1 5, aI E 10 ((pr i).2.2.2 1)), ((pr i).1 6, aI E 10 ((pr i).2.2.2 2)), ((pr i).1 2, .inr (7, [.ref ((pr i).1 7), .ref ((pr i).1 8), .int (nI ((pr i).1 15))])), ((pr i).1 7, aI E 7 ((pr i).2.2.2 3)), ((pr i).1 8, aI E 7 ((pr i).2.2.2 4)), ((pr i).1 3, .inr (2, [.ref ((pr i).1 9), .ref ((pr i).1 10), .ref ((pr i).1 11), .int (nI ((pr i).1 16))])), ((pr i).1 9, aI E 6 ((pr i).2.2.2 5)), ((pr i).1 10, aI E 6 ((pr i).2.2.2 6)), ((pr i).1 11, aZ E 6 ((pr i).2.2.2 7)), ((pr i).1 4, aI E 6 ((pr i).2.2.2 8)), (c0, .inr (1, [.ref cr, .int rev, .int sea])), (cr, aR E 10 (fun j => (ci j).map ra))] ++ rowsW E N ra pr), ¬ A q.1 := hap
  have hR0 : va_P E.1 vwCl ([(ra i, .inr (5, [.int ((pr i).2.1 0), .int (nI ((pr i).1 17)), .int ((pr i).2.1 1), .long ((pr i).2.2.1), .ref ((pr i).1 0), .int (nI ((pr i).1 12)), .ref ((pr i).1 1), .ref ((pr i).1 2), .ref ((pr i).1 3), .ref ((pr i).1 4), .int (nI ((pr i).1 13)), .int (nI ((pr i).1 14)), .int ((pr i).2.1 2)])), ((pr i).1 0, aB E 16 ((pr i).2.2.2 0)), ((pr i).1 1, .inr (4, [.ref ((pr i).1 5), .ref ((pr i).1 6)])), ((pr i).1 5, aI E 10 ((pr i).2.2.2 1)), ((pr i).1 6, aI E 10 ((pr i).2.2.2 2)), ((pr i).1 2, .inr (7, [.ref ((pr i).1 7), .ref ((pr i).1 8), .int (nI ((pr i).1 15))])), ((pr i).1 7, aI E 7 ((pr i).2.2.2 3)), ((pr i).1 8, aI E 7 ((pr i).2.2.2 4)), ((pr i).1 3, .inr (2, [.ref ((pr i).1 9), .ref ((pr i).1 10), .ref ((pr i).1 11), .int (nI ((pr i).1 16))])), ((pr i).1 9, aI E 6 ((pr i).2.2.2 5)), ((pr i).1 10, aI E 6 ((pr i).2.2.2 6)), ((pr i).1 11, aZ E 6 ((pr i).2.2.2 7)), ((pr i).1 4, aI E 6 ((pr i).2.2.2 8)), (c0, .inr (1, [.ref cr, .int rev, .int sea])), (cr, aR E 10 (fun j => (ci j).map ra))] ++ rowsW E N ra pr) s.heap := hR0
  obtain ⟨o12i, o13i, o14i, o15i, o16i, o17i⟩ := hok i (hi)
  refine lv_aload_n hx hb dX0_keepsWhatWasTold_0 rfl (lv_at hl 1 rfl) ?_
  refine va_getN (D := E.1) (ci := 5) (v := .int (nI ((pr i).1 17))) (C := RX4) (T := TX4) (N := 13) hx hb hts hiX4 hown hev.1 (xro hR0 hap hS) 0 rfl rfl 1 (by decide) (xNF7 hev.2.1) (fun _ h9 => h9) rfl dX0_keepsWhatWasTold_1 ?_
  refine lv_iconst (v := 2) hx hb dX0_keepsWhatWasTold_4 (by decide) ?_
  refine lv_icmp_eq (tgt := 10) hx hb dX0_keepsWhatWasTold_5 (by decide) (fun c1 => ?_) (fun c1 => ?_)
  · skip
    have kc1 : ((pr i).1 17) = 2 := (nI_eq (a := ((pr i).1 17)) (b := 2) (by omega) (by omega)).mp c1
    refine lv_aload_n hx hb dX0_keepsWhatWasTold_10 rfl (lv_at hl 0 rfl) ?_
    refine lv_iconst (v := 2) hx hb dX0_keepsWhatWasTold_11 (by decide) ?_
    have hP := hP.sub (ws' := [] ++ []) [] rfl
    have hD := hD.sub (ws' := [] ++ []) [] (by decide) rfl
    refine xcr (va_runV (As := [.int 2]) (rest := []) ⟨hx, hb, hml, hown, hts⟩ (kX0_currentOfJ l E c0 cr rev sea ci ra 2 (by first | assumption | omega) H.size) (cwV 1 hts gX0_keepsWhatWasTold_X0_currentOf rfl rfl rfl (by decide +kernel) ⟨Nat.le_of_ble_eq_true rfl, Nat.le_of_ble_eq_true rfl⟩) ⟨CP.blind, (va_recv hev.1 (xro hR0 hap hS) (ci := 1) (q0 := 13) rfl rfl), (xpre hev hz hA hP hD hS hR0 hap [13, 14] rfl)⟩ rfl rfl hl.1 rfl (lv_room (Nat.le_of_ble_eq_true rfl)) dX0_keepsWhatWasTold_12 ⟨Nat.le_of_ble_eq_true rfl, Nat.le_of_ble_eq_true rfl⟩) hP hD hS hA (fun r2 w3 H locs h4 hP hD hS => ?_)
    obtain ⟨rfl, rfl, h4⟩ := h4
    try dsimp only at h4
    have hP : va_P E.1 vwCl [] H := hP
    have hD : va_D A [] := hD
    cases o5 : ci 2 with
    | none =>
      refine lv_astore_nN (lv' := [(2, .null), (0, .ref c0), (1, .ref (ra i))]) hx hb dX0_keepsWhatWasTold_15 rfl hl (by decide) rfl (fun ls hl => ?_)
      refine lv_aload_nN hx hb dX0_keepsWhatWasTold_16 rfl (lv_at hl 0 rfl) ?_
      refine lv_ifnullN (tgt := 34) hx hb dX0_keepsWhatWasTold_17 (by decide) ?_
      refine lv_iconst (v := 1) hx hb dX0_keepsWhatWasTold_34 (by decide) ?_
      refine lv_goto (tgt := 39) hx hb dX0_keepsWhatWasTold_35 (by decide) ?_
      refine xrz hx hb hr hlocks (by first | rfl | decide | exact b1_narrow _) hP hD hS ⟨rfl, ?_, ?_⟩ dX0_keepsWhatWasTold_39
      · exact (b1_t (fun _ k9 h9 => by rw [o5] at h9; cases h9)).symm
      · trivial
    | some kk =>
      have hap := xmoreA (L := [(ra kk, .inr (5, [.int ((pr kk).2.1 0), .int (nI ((pr kk).1 17)), .int ((pr kk).2.1 1), .long ((pr kk).2.2.1), .ref ((pr kk).1 0), .int (nI ((pr kk).1 12)), .ref ((pr kk).1 1), .ref ((pr kk).1 2), .ref ((pr kk).1 3), .ref ((pr kk).1 4), .int (nI ((pr kk).1 13)), .int (nI ((pr kk).1 14)), .int ((pr kk).2.1 2)])), ((pr kk).1 0, aB E 16 ((pr kk).2.2.2 0)), ((pr kk).1 1, .inr (4, [.ref ((pr kk).1 5), .ref ((pr kk).1 6)])), ((pr kk).1 5, aI E 10 ((pr kk).2.2.2 1)), ((pr kk).1 6, aI E 10 ((pr kk).2.2.2 2)), ((pr kk).1 2, .inr (7, [.ref ((pr kk).1 7), .ref ((pr kk).1 8), .int (nI ((pr kk).1 15))])), ((pr kk).1 7, aI E 7 ((pr kk).2.2.2 3)), ((pr kk).1 8, aI E 7 ((pr kk).2.2.2 4)), ((pr kk).1 3, .inr (2, [.ref ((pr kk).1 9), .ref ((pr kk).1 10), .ref ((pr kk).1 11), .int (nI ((pr kk).1 16))])), ((pr kk).1 9, aI E 6 ((pr kk).2.2.2 5)), ((pr kk).1 10, aI E 6 ((pr kk).2.2.2 6)), ((pr kk).1 11, aZ E 6 ((pr kk).2.2.2 7)), ((pr kk).1 4, aI E 6 ((pr kk).2.2.2 8))]) hap (fun q9 h9 => List.mem_append_right _ (rowsW_mem (E := E) (ra := ra) (pr := pr) (hci _ _ o5) q9 h9))
      have hR0 := xmore (L := [(ra kk, .inr (5, [.int ((pr kk).2.1 0), .int (nI ((pr kk).1 17)), .int ((pr kk).2.1 1), .long ((pr kk).2.2.1), .ref ((pr kk).1 0), .int (nI ((pr kk).1 12)), .ref ((pr kk).1 1), .ref ((pr kk).1 2), .ref ((pr kk).1 3), .ref ((pr kk).1 4), .int (nI ((pr kk).1 13)), .int (nI ((pr kk).1 14)), .int ((pr kk).2.1 2)])), ((pr kk).1 0, aB E 16 ((pr kk).2.2.2 0)), ((pr kk).1 1, .inr (4, [.ref ((pr kk).1 5), .ref ((pr kk).1 6)])), ((pr kk).1 5, aI E 10 ((pr kk).2.2.2 1)), ((pr kk).1 6, aI E 10 ((pr kk).2.2.2 2)), ((pr kk).1 2, .inr (7, [.ref ((pr kk).1 7), .ref ((pr kk).1 8), .int (nI ((pr kk).1 15))])), ((pr kk).1 7, aI E 7 ((pr kk).2.2.2 3)), ((pr kk).1 8, aI E 7 ((pr kk).2.2.2 4)), ((pr kk).1 3, .inr (2, [.ref ((pr kk).1 9), .ref ((pr kk).1 10), .ref ((pr kk).1 11), .int (nI ((pr kk).1 16))])), ((pr kk).1 9, aI E 6 ((pr kk).2.2.2 5)), ((pr kk).1 10, aI E 6 ((pr kk).2.2.2 6)), ((pr kk).1 11, aZ E 6 ((pr kk).2.2.2 7)), ((pr kk).1 4, aI E 6 ((pr kk).2.2.2 8))]) hR0 (fun q9 h9 => List.mem_append_right _ (rowsW_mem (E := E) (ra := ra) (pr := pr) (hci _ _ o5) q9 h9))
      have hap : ∀ q ∈ ([(ra kk, .inr (5, [.int ((pr kk).2.1 0), .int (nI ((pr kk).1 17)), .int ((pr kk).2.1 1), .long ((pr kk).2.2.1), .ref ((pr kk).1 0), .int (nI ((pr kk).1 12)), .ref ((pr kk).1 1), .ref ((pr kk).1 2), .ref ((pr kk).1 3), .ref ((pr kk).1 4), .int (nI ((pr kk).1 13)), .int (nI ((pr kk).1 14)), .int ((pr kk).2.1 2)])), ((pr kk).1 0, aB E 16 ((pr kk).2.2.2 0)), ((pr kk).1 1, .inr (4, [.ref ((pr kk).1 5), .ref ((pr kk).1 6)])), ((pr kk).1 5, aI E 10 ((pr kk).2.2.2 1)), ((pr kk).1 6, aI E 10 ((pr kk).2.2.2 2)), ((pr kk).1 2, .inr (7, [.ref ((pr kk).1 7), .ref ((pr kk).1 8), .int (nI ((pr kk).1 15))])), ((pr kk).1 7, aI E 7 ((pr kk).2.2.2 3)), ((pr kk).1 8, aI E 7 ((pr kk).2.2.2 4)), ((pr kk).1 3, .inr (2, [.ref ((pr kk).1 9), .ref ((pr kk).1 10), .ref ((pr kk).1 11), .int (nI ((pr kk).1 16))])), ((pr kk).1 9, aI E 6 ((pr kk).2.2.2 5)), ((pr kk).1 10, aI E 6 ((pr kk).2.2.2 6)), ((pr kk).1 11, aZ E 6 ((pr kk).2.2.2 7)), ((pr kk).1 4, aI E 6 ((pr kk).2.2.2 8)), (ra i, .inr (5, [.int ((pr i).2.1 0), .int (nI ((pr i).1 17)), .int ((pr i).2.1 1), .long ((pr i).2.2.1), .ref ((pr i).1 0), .int (nI ((pr i).1 12)), .ref ((pr i).1 1), .ref ((pr i).1 2), .ref ((pr i).1 3), .ref ((pr i).1 4), .int (nI ((pr i).1 13)), .int (nI ((pr i).1 14)), .int ((pr i).2.1 2)])), ((pr i).1 0, aB E 16 ((pr i).2.2.2 0)), ((pr i).1 1, .inr (4, [.ref ((pr i).1 5), .ref ((pr i).1 6)])), ((pr i).1 5, aI E 10 ((pr i).2.2.2 1)), ((pr i).1 6, aI E 10 ((pr i).2.2.2 2)), ((pr i).1 2, .inr (7, [.ref ((pr i).1 7), .ref ((pr i).1 8), .int (nI ((pr i).1 15))])), ((pr i).1 7, aI E 7 ((pr i).2.2.2 3)), ((pr i).1 8, aI E 7 ((pr i).2.2.2 4)), ((pr i).1 3, .inr (2, [.ref ((pr i).1 9), .ref ((pr i).1 10), .ref ((pr i).1 11), .int (nI ((pr i).1 16))])), ((pr i).1 9, aI E 6 ((pr i).2.2.2 5)), ((pr i).1 10, aI E 6 ((pr i).2.2.2 6)), ((pr i).1 11, aZ E 6 ((pr i).2.2.2 7)), ((pr i).1 4, aI E 6 ((pr i).2.2.2 8)), (c0, .inr (1, [.ref cr, .int rev, .int sea])), (cr, aR E 10 (fun j => (ci j).map ra))] ++ rowsW E N ra pr), ¬ A q.1 := hap
      have hR0 : va_P E.1 vwCl ([(ra kk, .inr (5, [.int ((pr kk).2.1 0), .int (nI ((pr kk).1 17)), .int ((pr kk).2.1 1), .long ((pr kk).2.2.1), .ref ((pr kk).1 0), .int (nI ((pr kk).1 12)), .ref ((pr kk).1 1), .ref ((pr kk).1 2), .ref ((pr kk).1 3), .ref ((pr kk).1 4), .int (nI ((pr kk).1 13)), .int (nI ((pr kk).1 14)), .int ((pr kk).2.1 2)])), ((pr kk).1 0, aB E 16 ((pr kk).2.2.2 0)), ((pr kk).1 1, .inr (4, [.ref ((pr kk).1 5), .ref ((pr kk).1 6)])), ((pr kk).1 5, aI E 10 ((pr kk).2.2.2 1)), ((pr kk).1 6, aI E 10 ((pr kk).2.2.2 2)), ((pr kk).1 2, .inr (7, [.ref ((pr kk).1 7), .ref ((pr kk).1 8), .int (nI ((pr kk).1 15))])), ((pr kk).1 7, aI E 7 ((pr kk).2.2.2 3)), ((pr kk).1 8, aI E 7 ((pr kk).2.2.2 4)), ((pr kk).1 3, .inr (2, [.ref ((pr kk).1 9), .ref ((pr kk).1 10), .ref ((pr kk).1 11), .int (nI ((pr kk).1 16))])), ((pr kk).1 9, aI E 6 ((pr kk).2.2.2 5)), ((pr kk).1 10, aI E 6 ((pr kk).2.2.2 6)), ((pr kk).1 11, aZ E 6 ((pr kk).2.2.2 7)), ((pr kk).1 4, aI E 6 ((pr kk).2.2.2 8)), (ra i, .inr (5, [.int ((pr i).2.1 0), .int (nI ((pr i).1 17)), .int ((pr i).2.1 1), .long ((pr i).2.2.1), .ref ((pr i).1 0), .int (nI ((pr i).1 12)), .ref ((pr i).1 1), .ref ((pr i).1 2), .ref ((pr i).1 3), .ref ((pr i).1 4), .int (nI ((pr i).1 13)), .int (nI ((pr i).1 14)), .int ((pr i).2.1 2)])), ((pr i).1 0, aB E 16 ((pr i).2.2.2 0)), ((pr i).1 1, .inr (4, [.ref ((pr i).1 5), .ref ((pr i).1 6)])), ((pr i).1 5, aI E 10 ((pr i).2.2.2 1)), ((pr i).1 6, aI E 10 ((pr i).2.2.2 2)), ((pr i).1 2, .inr (7, [.ref ((pr i).1 7), .ref ((pr i).1 8), .int (nI ((pr i).1 15))])), ((pr i).1 7, aI E 7 ((pr i).2.2.2 3)), ((pr i).1 8, aI E 7 ((pr i).2.2.2 4)), ((pr i).1 3, .inr (2, [.ref ((pr i).1 9), .ref ((pr i).1 10), .ref ((pr i).1 11), .int (nI ((pr i).1 16))])), ((pr i).1 9, aI E 6 ((pr i).2.2.2 5)), ((pr i).1 10, aI E 6 ((pr i).2.2.2 6)), ((pr i).1 11, aZ E 6 ((pr i).2.2.2 7)), ((pr i).1 4, aI E 6 ((pr i).2.2.2 8)), (c0, .inr (1, [.ref cr, .int rev, .int sea])), (cr, aR E 10 (fun j => (ci j).map ra))] ++ rowsW E N ra pr) s.heap := hR0
      have hltkk : kk < N := hci _ _ o5
      obtain ⟨o12kk, o13kk, o14kk, o15kk, o16kk, o17kk⟩ := hok kk (hci _ _ o5)
      refine lv_astore_n (lv' := [(2, .ref (ra kk)), (0, .ref c0), (1, .ref (ra i))]) hx hb dX0_keepsWhatWasTold_15 rfl hl (by decide) rfl (fun ls hl => ?_)
      refine lv_aload_n hx hb dX0_keepsWhatWasTold_16 rfl (lv_at hl 0 rfl) ?_
      refine lv_ifnull hx hb dX0_keepsWhatWasTold_17 ?_
      refine lv_aload_n hx hb dX0_keepsWhatWasTold_20 rfl (lv_at hl 2 rfl) ?_
      refine va_getN (D := E.1) (ci := 5) (v := .ref ((pr i).1 2)) (C := RX4) (T := TX4) (N := 13) hx hb hts hiX4 hown hev.1 (xro hR0 hap hS) 13 rfl rfl 7 (by decide) (xNF14 hev.2.1) (fun _ h9 => h9) rfl dX0_keepsWhatWasTold_21 ?_
      refine lv_aload_n hx hb dX0_keepsWhatWasTold_24 rfl (lv_at hl 0 rfl) ?_
      refine va_getN (D := E.1) (ci := 5) (v := .ref ((pr kk).1 2)) (C := RX4) (T := TX4) (N := 13) hx hb hts hiX4 hown hev.1 (xro hR0 hap hS) 0 rfl rfl 7 (by decide) (xNF14 hev.2.1) (fun _ h9 => h9) rfl dX0_keepsWhatWasTold_25 ?_
      have hP := hP.sub (ws' := [] ++ []) [] rfl
      have hD := hD.sub (ws' := [] ++ []) [] (by decide) rfl
      refine xci (va_runV (As := [.ref ((pr kk).1 2)]) (rest := []) ⟨hx, hb, hml, hown, hts⟩ (kX6_keepsAllOf l E ((pr i).1 2) ((pr i).1 7) ((pr i).1 8) ((pr i).1 15) ((pr i).2.2.2 3) ((pr i).2.2.2 4) ((pr kk).1 2) ((pr kk).1 7) ((pr kk).1 8) ((pr kk).1 15) ((pr kk).2.2.2 3) ((pr kk).2.2.2 4) (by first | assumption | omega) (by first | assumption | omega) H.size) (cwV 1 hts gX0_keepsWhatWasTold_X6_keepsAllOf rfl rfl rfl (by decide +kernel) ⟨Nat.le_of_ble_eq_true rfl, Nat.le_of_ble_eq_true rfl⟩) ⟨CP.blind, (va_recv hev.1 (xro hR0 hap hS) (ci := 7) (q0 := 18) rfl rfl), (xpre hev hz hA hP hD hS hR0 hap [18, 19, 20, 5, 6, 7] rfl)⟩ rfl rfl hl.1 rfl (lv_room (Nat.le_of_ble_eq_true rfl)) dX0_keepsWhatWasTold_28 ⟨Nat.le_of_ble_eq_true rfl, Nat.le_of_ble_eq_true rfl⟩) hP hD hS hA (fun r6 w7 H locs h8 hP hD hS => ?_)
      obtain ⟨rfl, rfl, h8⟩ := h8
      try dsimp only at h8
      have hP : va_P E.1 vwCl [] H := hP
      have hD : va_D A [] := hD
      refine lv_if_eq (tgt := 38) hx hb dX0_keepsWhatWasTold_31 (by decide) (fun c9 => ?_) (fun c9 => ?_)
      · skip
        have kc9 := b1_0.mp c9
        refine lv_iconst (v := 0) hx hb dX0_keepsWhatWasTold_38 (by decide) ?_
        refine xrz hx hb hr hlocks (by first | rfl | decide | exact b1_narrow _) hP hD hS ⟨rfl, ?_, ?_⟩ dX0_keepsWhatWasTold_39
        · exact (b1_f (fun h9 => kc9 (h9 kc1 kk o5))).symm
        · trivial
      · skip
        have kc9 := b1_n.mp c9
        refine lv_iconst (v := 1) hx hb dX0_keepsWhatWasTold_34 (by decide) ?_
        refine lv_goto (tgt := 39) hx hb dX0_keepsWhatWasTold_35 (by decide) ?_
        refine xrz hx hb hr hlocks (by first | rfl | decide | exact b1_narrow _) hP hD hS ⟨rfl, ?_, ?_⟩ dX0_keepsWhatWasTold_39
        · exact (b1_t (fun _ k9 h9 => by rw [o5] at h9; cases h9; exact kc9)).symm
        · trivial
  · skip
    have kc1 : ¬ ((pr i).1 17) = 2 := fun h9 => c1 ((nI_eq (a := ((pr i).1 17)) (b := 2) (by omega) (by omega)).mpr h9)
    refine lv_iconst (v := 1) hx hb dX0_keepsWhatWasTold_8 (by decide) ?_
    refine xrz hx hb hr hlocks (by first | rfl | decide | exact b1_narrow _) hP hD hS ⟨rfl, ?_, ?_⟩ dX0_keepsWhatWasTold_9
    · exact (b1_t (fun h9 => absurd h9 kc1)).symm
    · trivial
