abbrev pJ6_rotateRight_7cf53 (E : xE) (a : Int32) (b : Int32) (r : Int32) (w : va_W) : Prop := w = [] ∧ r = jrot a b ∧ (True)
set_option maxHeartbeats 4000000 in
set_option maxRecDepth 100000 in
theorem kJ6_rotateRight_7cf53 (l : Launch) (E : xE) (a : Int32) (b : Int32)  : KT l yJ6_rotateRight_7cf53 wsJ6_rotateRight_7cf53 0 0 0 0 E [] [] [.int a, .int b] (QI E (pJ6_rotateRight_7cf53 E a b)) := by
  refine KT.start (cc := cJ6_rotateRight_7cf53) (maxL := 2) (ret := (some .int)) (by decide) rfl (Nat.le_of_ble_eq_true rfl) ?_
  intro p e s m below meth c A H hx hb hr hlocks hml hts hown hin hP hR0 hD hap hev hz hA hS ls hl
  have hl : lv_has ls 2 [(0, .int a), (1, .int b)] := hl
  refine lv_iload_n hx hb dJ6_rotateRight_7cf53_0 rfl (lv_at hl 0 rfl) ?_
  refine lv_iload_n hx hb dJ6_rotateRight_7cf53_1 rfl (lv_at hl 1 rfl) ?_
  refine lv_iushr (v := (a.toUInt32 >>> (b.toUInt32 &&& Int32.toUInt32 31)).toInt32) hx hb dJ6_rotateRight_7cf53_2 rfl ?_
  refine lv_iload_n hx hb dJ6_rotateRight_7cf53_3 rfl (lv_at hl 0 rfl) ?_
  refine lv_iload_n hx hb dJ6_rotateRight_7cf53_4 rfl (lv_at hl 1 rfl) ?_
  refine lv_ineg hx hb dJ6_rotateRight_7cf53_5 ?_
  refine lv_ishl hx hb dJ6_rotateRight_7cf53_6 ?_
  refine lv_ior hx hb dJ6_rotateRight_7cf53_7 ?_
  refine xri hx hb hr hlocks hP hD hS ⟨rfl, ?_, ?_⟩ dJ6_rotateRight_7cf53_8
  · rfl
  · trivial

abbrev pJ6_bitCount_0f7a4 (E : xE) (a : Int32) (r : Int32) (w : va_W) : Prop := w = [] ∧ r = jbc a ∧ (True)
set_option maxHeartbeats 4000000 in
set_option maxRecDepth 100000 in
theorem kJ6_bitCount_0f7a4 (l : Launch) (E : xE) (a : Int32)  : KT l yJ6_bitCount_0f7a4 wsJ6_bitCount_0f7a4 0 0 0 0 E [] [] [.int a] (QI E (pJ6_bitCount_0f7a4 E a)) := by
  refine KT.start (cc := cJ6_bitCount_0f7a4) (maxL := 1) (ret := (some .int)) (by decide) rfl (Nat.le_of_ble_eq_true rfl) ?_
  intro p e s m below meth c A H hx hb hr hlocks hml hts hown hin hP hR0 hD hap hev hz hA hS ls hl
  have hl : lv_has ls 1 [(0, .int a)] := hl
  have hk265 := hts (.constant RJ6 265 (1431655765)) (by decide +kernel)
  have hk266 := hts (.constant RJ6 266 (858993459)) (by decide +kernel)
  have hk267 := hts (.constant RJ6 267 (252645135)) (by decide +kernel)
  refine lv_iload_n hx hb dJ6_bitCount_0f7a4_0 rfl (lv_at hl 0 rfl) ?_
  refine lv_iload_n hx hb dJ6_bitCount_0f7a4_1 rfl (lv_at hl 0 rfl) ?_
  refine lv_iconst (v := 1) hx hb dJ6_bitCount_0f7a4_2 (by decide) ?_
  refine lv_iushr (v := (a.toUInt32 >>> ((1 : Int32).toUInt32 &&& Int32.toUInt32 31)).toInt32) hx hb dJ6_bitCount_0f7a4_3 rfl ?_
  refine lv_ldcw hx hb hown hk265 dJ6_bitCount_0f7a4_4 ?_
  refine lv_iand hx hb dJ6_bitCount_0f7a4_7 ?_
  refine lv_isub hx hb dJ6_bitCount_0f7a4_8 ?_
  refine lv_topi (fun v1 ev1 => ?_)
  refine lv_istore_n (lv' := [(0, .int v1)]) hx hb dJ6_bitCount_0f7a4_9 rfl hl (by decide) rfl (fun ls hl => ?_)
  refine lv_iload_n hx hb dJ6_bitCount_0f7a4_10 rfl (lv_at hl 0 rfl) ?_
  refine lv_ldcw hx hb hown hk266 dJ6_bitCount_0f7a4_11 ?_
  refine lv_iand hx hb dJ6_bitCount_0f7a4_14 ?_
  refine lv_iload_n hx hb dJ6_bitCount_0f7a4_15 rfl (lv_at hl 0 rfl) ?_
  refine lv_iconst (v := 2) hx hb dJ6_bitCount_0f7a4_16 (by decide) ?_
  refine lv_iushr (v := (v1.toUInt32 >>> ((2 : Int32).toUInt32 &&& Int32.toUInt32 31)).toInt32) hx hb dJ6_bitCount_0f7a4_17 rfl ?_
  refine lv_ldcw hx hb hown hk266 dJ6_bitCount_0f7a4_18 ?_
  refine lv_iand hx hb dJ6_bitCount_0f7a4_21 ?_
  refine lv_iadd hx hb dJ6_bitCount_0f7a4_22 ?_
  refine lv_topi (fun v2 ev2 => ?_)
  refine lv_istore_n (lv' := [(0, .int v2)]) hx hb dJ6_bitCount_0f7a4_23 rfl hl (by decide) rfl (fun ls hl => ?_)
  refine lv_iload_n hx hb dJ6_bitCount_0f7a4_24 rfl (lv_at hl 0 rfl) ?_
  refine lv_iload_n hx hb dJ6_bitCount_0f7a4_25 rfl (lv_at hl 0 rfl) ?_
  refine lv_iconst (v := 4) hx hb dJ6_bitCount_0f7a4_26 (by decide) ?_
  refine lv_iushr (v := (v2.toUInt32 >>> ((4 : Int32).toUInt32 &&& Int32.toUInt32 31)).toInt32) hx hb dJ6_bitCount_0f7a4_27 rfl ?_
  refine lv_iadd hx hb dJ6_bitCount_0f7a4_28 ?_
  refine lv_ldcw hx hb hown hk267 dJ6_bitCount_0f7a4_29 ?_
  refine lv_iand hx hb dJ6_bitCount_0f7a4_32 ?_
  refine lv_topi (fun v3 ev3 => ?_)
  refine lv_istore_n (lv' := [(0, .int v3)]) hx hb dJ6_bitCount_0f7a4_33 rfl hl (by decide) rfl (fun ls hl => ?_)
  refine lv_iload_n hx hb dJ6_bitCount_0f7a4_34 rfl (lv_at hl 0 rfl) ?_
  refine lv_iload_n hx hb dJ6_bitCount_0f7a4_35 rfl (lv_at hl 0 rfl) ?_
  refine lv_bipush (v := 8) hx hb dJ6_bitCount_0f7a4_36 (by decide) ?_
  refine lv_iushr (v := (v3.toUInt32 >>> ((8 : Int32).toUInt32 &&& Int32.toUInt32 31)).toInt32) hx hb dJ6_bitCount_0f7a4_38 rfl ?_
  refine lv_iadd hx hb dJ6_bitCount_0f7a4_39 ?_
  refine lv_topi (fun v4 ev4 => ?_)
  refine lv_istore_n (lv' := [(0, .int v4)]) hx hb dJ6_bitCount_0f7a4_40 rfl hl (by decide) rfl (fun ls hl => ?_)
  refine lv_iload_n hx hb dJ6_bitCount_0f7a4_41 rfl (lv_at hl 0 rfl) ?_
  refine lv_iload_n hx hb dJ6_bitCount_0f7a4_42 rfl (lv_at hl 0 rfl) ?_
  refine lv_bipush (v := 16) hx hb dJ6_bitCount_0f7a4_43 (by decide) ?_
  refine lv_iushr (v := (v4.toUInt32 >>> ((16 : Int32).toUInt32 &&& Int32.toUInt32 31)).toInt32) hx hb dJ6_bitCount_0f7a4_45 rfl ?_
  refine lv_iadd hx hb dJ6_bitCount_0f7a4_46 ?_
  refine lv_topi (fun v5 ev5 => ?_)
  refine lv_istore_n (lv' := [(0, .int v5)]) hx hb dJ6_bitCount_0f7a4_47 rfl hl (by decide) rfl (fun ls hl => ?_)
  refine lv_iload_n hx hb dJ6_bitCount_0f7a4_48 rfl (lv_at hl 0 rfl) ?_
  refine lv_bipush (v := 63) hx hb dJ6_bitCount_0f7a4_49 (by decide) ?_
  refine lv_iand hx hb dJ6_bitCount_0f7a4_51 ?_
  refine xri hx hb hr hlocks hP hD hS ⟨rfl, ?_, ?_⟩ dJ6_bitCount_0f7a4_52
  · subst_vars
    rfl
  · trivial

abbrev pX3_init (E : xE) (o : Nat) (w : va_W) : Prop := ∃ (na : Nat) (ma : Nat) (gn : Nat → Int32), w = [(o, .inr (4, [.ref na, .ref ma])), (na, aI E 10 gn), (ma, aI E 10 (fun _ => 0))] ∧ (∀ k, k < 10 → gn k = 1)
set_option maxHeartbeats 4000000 in
set_option maxRecDepth 100000 in
theorem kX3_init (l : Launch) (E : xE) (o : Nat)  : KT l yX3_init wsX3_init 1 12 2 20 E [(o, .inr (4, [.null, .null]))] [] [.ref o] (QV E (pX3_init E o)) := by
  refine KT.start (cc := cX3_init) (maxL := 2) (ret := none) (by decide) rfl (Nat.le_of_ble_eq_true rfl) ?_
  intro p e s m below meth c A H hx hb hr hlocks hml hts hown hin hP hR0 hD hap hev hz hA hS ls hl
  have hl : lv_has ls 2 [(0, .ref o)] := hl
  have hiX3 : ∀ w ∈ wsX30, w ∈ wsX3_init := by decide +kernel
  have hacI := hts (.arrayClass .int) (by decide +kernel)
  have hf15 := hts (.fieldLink RX3 15 "SignQuorum$Roster" "members" "[I") (by decide +kernel)
  have hf9 := hts (.fieldLink RX3 9 "SignQuorum$Roster" "needed" "[I") (by decide +kernel)
  have hoi3 := hts (.methodLink RX3 3 objectInit) (by decide +kernel)
  have hoj := hts (.instanceMethod objectInit) (by decide +kernel)
  refine lv_aload_n hx hb dX3_init_0 rfl (lv_at hl 0 rfl) ?_
  refine W.objInit hx hb hown hoi3 hoj (hts _ (List.mem_of_getElem? (i := 3) rfl)) rfl (by rw [hml]; exact hl.1) rfl dX3_init_1 (Nat.le_of_ble_eq_true rfl) (Nat.le_of_ble_eq_true rfl) ?_
  refine W.eq (g2 := F0 m 4 ls []) rfl ?_
  refine lv_aload_n hx hb dX3_init_4 rfl (lv_at hl 0 rfl) ?_
  refine lv_bipush (v := 10) hx hb dX3_init_5 (by decide) ?_
  refine xnewa (atype := .int) (ty := .int) (cA0 := E.2 1) (N' := 10) (a0 := (10, (.inl (fun _ => 0)))) hx hb hacI rfl 1 hev rfl hP hD hS hA (fun _ => rfl) (by decide) (by decide) (by decide +kernel) (Nat.le_of_ble_eq_true rfl) (Nat.le_of_ble_eq_true rfl) dX3_init_7 (fun q1 H hP hD hS => ?_)
  have hP : va_P E.1 vwCl [(o, .inr (4, [.null, .null])), (q1, aI E 10 (fun _ => 0))] H := hP
  have hD : va_D A [(o, .inr (4, [.null, .null])), (q1, aI E 10 (fun _ => 0))] := hD
  refine va_putF (D := E.1) (ci := 4) (v := .ref q1) (ty := tyX3 0) (C := RX3) (T := TX3) (N := 2) hx hb hts hiX3 tyX3 tyX3_ok nmX3 hown hev.1 hP hD hS 0 rfl rfl 0 (by decide) hf9 (fun _ h9 => h9) rfl hin rfl (tyX3_ok 0 (by decide)) rfl rfl (Nat.le_of_ble_eq_true rfl) dX3_init_9 (fun H locs hP hD hS => ?_)
  have hP : va_P E.1 vwCl [(o, .inr (4, [.ref q1, .null])), (q1, aI E 10 (fun _ => 0))] H := hP
  have hD : va_D A [(o, .inr (4, [.ref q1, .null])), (q1, aI E 10 (fun _ => 0))] := hD
  refine lv_aload_n hx hb dX3_init_12 rfl (lv_at hl 0 rfl) ?_
  refine lv_bipush (v := 10) hx hb dX3_init_13 (by decide) ?_
  refine xnewa (atype := .int) (ty := .int) (cA0 := E.2 1) (N' := 10) (a0 := (10, (.inl (fun _ => 0)))) hx hb hacI rfl 1 hev rfl hP hD hS hA (fun _ => rfl) (by decide) (by decide) (by decide +kernel) (Nat.le_of_ble_eq_true rfl) (Nat.le_of_ble_eq_true rfl) dX3_init_15 (fun q2 H hP hD hS => ?_)
  have hP : va_P E.1 vwCl [(o, .inr (4, [.ref q1, .null])), (q1, aI E 10 (fun _ => 0)), (q2, aI E 10 (fun _ => 0))] H := hP
  have hD : va_D A [(o, .inr (4, [.ref q1, .null])), (q1, aI E 10 (fun _ => 0)), (q2, aI E 10 (fun _ => 0))] := hD
  refine va_putF (D := E.1) (ci := 4) (v := .ref q2) (ty := tyX3 1) (C := RX3) (T := TX3) (N := 2) hx hb hts hiX3 tyX3 tyX3_ok nmX3 hown hev.1 hP hD hS 0 rfl rfl 1 (by decide) hf15 (fun _ h9 => h9) rfl hin rfl (tyX3_ok 1 (by decide)) rfl rfl (Nat.le_of_ble_eq_true rfl) dX3_init_17 (fun H locs hP hD hS => ?_)
  have hP : va_P E.1 vwCl [(o, .inr (4, [.ref q1, .ref q2])), (q1, aI E 10 (fun _ => 0)), (q2, aI E 10 (fun _ => 0))] H := hP
  have hD : va_D A [(o, .inr (4, [.ref q1, .ref q2])), (q1, aI E 10 (fun _ => 0)), (q2, aI E 10 (fun _ => 0))] := hD
  refine lv_iconst (v := 0) hx hb dX3_init_20 (by decide) ?_
  refine lv_istore_n (lv' := [(1, .int 0), (0, .ref o)]) hx hb dX3_init_21 rfl hl (by decide) rfl (fun ls hl => ?_)
  have loop22 : ∀ (fz : Nat) (i : Nat) (gn : Nat → Int32), (i ≤ 10) → (∀ k, k < i → gn k = 1) → (10 - i < fz) → ∀ (H : Heap) (locs : List Loc), va_P E.1 vwCl [(o, .inr (4, [.ref q1, .ref q2])), (q1, aI E 10 gn), (q2, aI E 10 (fun _ => 0))] H → va_D A [(o, .inr (4, [.ref q1, .ref q2])), (q1, aI E 10 gn), (q2, aI E 10 (fun _ => 0))] → va_S A s.heap H locs → ∀ ls : Array Slot, lv_has ls 2 [(1, .int (nI i)), (0, .ref o)] → W p l e ({ frames := 1, cells := 2, slots := 20, locals := 12 } : Room) s m ([.ref o] : List Value).toArray below meth c H locs 2 20 (MQ below (QV E (pX3_init E o) A) ([.ref o] : List Value).toArray s 2 20 A) (F0 m 22 ls []) := by
    intro fz
    induction fz with
    | zero =>
      intro i gn hi hg hfuel
      exact absurd hfuel (by omega)
    | succ fz ih =>
      intro i gn hi hg hfuel H locs hP hD hS ls hl
      refine lv_iload_n hx hb dX3_init_22 rfl (lv_at hl 0 rfl) ?_
      refine lv_bipush (v := 10) hx hb dX3_init_23 (by decide) ?_
      refine lv_icmp_ge (tgt := 41) hx hb dX3_init_25 (by decide) (fun c3 => ?_) (fun c3 => ?_)
      · skip
        have kc3 : 10 ≤ i := (nI_leI (a := 10) (b := i) (by omega) (by omega)).mp c3
        refine xrv hx hb hr hlocks hP hD hS ⟨q1, q2, gn, rfl, ?_⟩ dX3_init_41
        exact fun k hk => hg k (by omega)
      · skip
        have kc3 : ¬ 10 ≤ i := fun h9 => c3 ((nI_leI (a := 10) (b := i) (by omega) (by omega)).mpr h9)
        refine lv_aload_n hx hb dX3_init_28 rfl (lv_at hl 1 rfl) ?_
        refine va_get (D := E.1) (ci := 4) (v := .ref q1) (C := RX3) (T := TX3) (N := 2) hx hb hts hiX3 hown hev.1 hP 0 rfl rfl 0 (by decide) hf9 (fun _ h9 => h9) rfl dX3_init_29 ?_
        refine lv_iload_n hx hb dX3_init_32 rfl (lv_at hl 0 rfl) ?_
        refine lv_iconst (v := 1) hx hb dX3_init_33 (by decide) ?_
        refine xiast (k := i) hx hb hev.1 hP hD hS 1 1 rfl rfl (by omega) (by decide) dX3_init_34 (fun H locs hP hD hS => ?_)
        obtain ⟨f4, ef4⟩ : ∃ y9_ : Nat → Int32, y9_ = upd gn i 1 := ⟨_, rfl⟩
        rw [← ef4] at hP hD
        have hP : va_P E.1 vwCl [(o, .inr (4, [.ref q1, .ref q2])), (q1, aI E 10 f4), (q2, aI E 10 (fun _ => 0))] H := hP
        have hD : va_D A [(o, .inr (4, [.ref q1, .ref q2])), (q1, aI E 10 f4), (q2, aI E 10 (fun _ => 0))] := hD
        refine lv_iinc (v := nI (i + 1)) (lv' := [(1, .int (nI (i + 1))), (0, .ref o)]) hx hb dX3_init_35 hl (k := 0) rfl ((nI_add i 1).trans (congrArg nI (by omega))) (by decide) rfl (fun ls hl => ?_)
        refine lv_goto (tgt := 22) hx hb dX3_init_38 (by decide) ?_
        exact ih  (i + 1) f4 (by omega) (lt_s (fun k hk => by rw [ef4, upd_ne (by omega)]; exact hg k hk) (by rw [ef4, upd_self])) (by omega) _ _ hP hD hS ls (lv_sub hl [0, 1] rfl)
  exact loop22 11 0 (fun _ => 0) (by omega) (fun _ h => absurd h (by omega)) (by omega) _ _ hP hD hS ls (lv_sub hl [0, 1] rfl)

abbrev pX3_setNeeded (E : xE) (o : Nat) (na : Nat) (ma : Nat) (fn : Nat → Int32) (j : Nat) (v : Int32) (w : va_W) : Prop := ∃ (gn : Nat → Int32), w = [(na, aI E 10 gn)] ∧ (gn = upd fn j v)
set_option maxHeartbeats 4000000 in
set_option maxRecDepth 100000 in
theorem kX3_setNeeded (l : Launch) (E : xE) (o : Nat) (na : Nat) (ma : Nat) (fn : Nat → Int32) (j : Nat) (v : Int32) (hj : j < 10) : KT l yX3_setNeeded wsX3_setNeeded 1 20 0 0 E [(na, aI E 10 fn)] [(o, .inr (4, [.ref na, .ref ma]))] [.ref o, .int (nI j), .int v] (QV E (pX3_setNeeded E o na ma fn j v)) := by
  refine KT.start (cc := cX3_setNeeded) (maxL := 3) (ret := none) (by decide) rfl (Nat.le_of_ble_eq_true rfl) ?_
  intro p e s m below meth c A H hx hb hr hlocks hml hts hown hin hP hR0 hD hap hev hz hA hS ls hl
  have hl : lv_has ls 3 [(0, .ref o), (1, .int (nI j)), (2, .int v)] := hl
  have hiX3 : ∀ w ∈ wsX30, w ∈ wsX3_setNeeded := by decide +kernel
  have hf9 := hts (.fieldLink RX3 9 "SignQuorum$Roster" "needed" "[I") (by decide +kernel)
  have hiniX7 := hts (.initialized RX7) (by decide +kernel)
  have hstX7_isRole := hts (.static yX7_isRole) (by decide +kernel)
  refine lv_iload_n hx hb dX3_setNeeded_0 rfl (lv_at hl 1 rfl) ?_
  have hP := hP.sub (ws' := [] ++ [(na, aI E 10 fn)]) [0] rfl
  have hD := hD.sub (ws' := [] ++ [(na, aI E 10 fn)]) [0] (by decide) rfl
  refine xci (va_runSN (As := [.int (nI j)]) (rest := []) ⟨hx, hb, hml, hown, hts⟩ (kX7_isRole l E (nI j)  H.size) ⟨va_cnB 1 hts gX3_setNeeded_X7_isRole_n18 rfl rfl rfl (xNM2 hev.2.1) hiniX7 (by decide +kernel) ⟨Nat.le_of_ble_eq_true rfl, Nat.le_of_ble_eq_true rfl⟩, hstX7_isRole, trivial⟩ ⟨CP.blind, (xpre hev hz hA hP hD hS hR0 hap [] rfl)⟩ rfl rfl hl.1 rfl (lv_room (Nat.le_of_ble_eq_true rfl)) dX3_setNeeded_1 ⟨Nat.le_of_ble_eq_true rfl, Nat.le_of_ble_eq_true rfl⟩) hP hD hS hA (fun r1 w2 H locs h3 hP hD hS => ?_)
  obtain ⟨rfl, rfl, h3⟩ := h3
  try dsimp only at h3
  have hP : va_P E.1 vwCl [(na, aI E 10 fn)] H := hP
  have hD : va_D A [(na, aI E 10 fn)] := hD
  refine lv_if_eq (tgt := 14) hx hb dX3_setNeeded_4 (by decide) (fun c4 => absurd c4 (b1_n.mpr (⟨j, hj, rfl⟩))) (fun c4 => ?_)
  refine lv_aload_n hx hb dX3_setNeeded_7 rfl (lv_at hl 0 rfl) ?_
  refine va_get (D := E.1) (ci := 4) (v := .ref na) (C := RX3) (T := TX3) (N := 2) hx hb hts hiX3 hown hev.1 (xro hR0 hap hS) 0 rfl rfl 0 (by decide) hf9 (fun _ h9 => h9) rfl dX3_setNeeded_8 ?_
  refine lv_iload_n hx hb dX3_setNeeded_11 rfl (lv_at hl 1 rfl) ?_
  refine lv_iload_n hx hb dX3_setNeeded_12 rfl (lv_at hl 2 rfl) ?_
  refine xiast (k := j) hx hb hev.1 hP hD hS 0 1 rfl rfl (by omega) (by decide) dX3_setNeeded_13 (fun H locs hP hD hS => ?_)
  obtain ⟨f5, ef5⟩ : ∃ y9_ : Nat → Int32, y9_ = upd fn j v := ⟨_, rfl⟩
  rw [← ef5] at hP hD
  have hP : va_P E.1 vwCl [(na, aI E 10 f5)] H := hP
  have hD : va_D A [(na, aI E 10 f5)] := hD
  refine xrv hx hb hr hlocks hP hD hS ⟨f5, rfl, ?_⟩ dX3_setNeeded_14
  assumption

abbrev pX3_setMember (E : xE) (o : Nat) (na : Nat) (ma : Nat) (fm : Nat → Int32) (j : Nat) (k : Int32) (on : Int32) (w : va_W) : Prop := ∃ (gm : Nat → Int32), w = [(ma, aI E 10 gm)] ∧ ((on = 0 → gm = upd fm j (fm j &&& ((1 <<< (k &&& 31)) ^^^ (-1)))) ∧ (¬ on = 0 → gm = upd fm j (fm j ||| (1 <<< (k &&& 31)))))
set_option maxHeartbeats 4000000 in
set_option maxRecDepth 100000 in
theorem kX3_setMember (l : Launch) (E : xE) (o : Nat) (na : Nat) (ma : Nat) (fm : Nat → Int32) (j : Nat) (k : Int32) (on : Int32) (hj : j < 10) : KT l yX3_setMember wsX3_setMember 1 20 0 0 E [(ma, aI E 10 fm)] [(o, .inr (4, [.ref na, .ref ma]))] [.ref o, .int (nI j), .int k, .int on] (QV E (pX3_setMember E o na ma fm j k on)) := by
  refine KT.start (cc := cX3_setMember) (maxL := 5) (ret := none) (by decide) rfl (Nat.le_of_ble_eq_true rfl) ?_
  intro p e s m below meth c A H hx hb hr hlocks hml hts hown hin hP hR0 hD hap hev hz hA hS ls hl
  have hl : lv_has ls 5 [(0, .ref o), (1, .int (nI j)), (2, .int k), (3, .int on)] := hl
  have hiX3 : ∀ w ∈ wsX30, w ∈ wsX3_setMember := by decide +kernel
  have hf15 := hts (.fieldLink RX3 15 "SignQuorum$Roster" "members" "[I") (by decide +kernel)
  have hiniX7 := hts (.initialized RX7) (by decide +kernel)
  have hstX7_isRole := hts (.static yX7_isRole) (by decide +kernel)
  refine lv_iload_n hx hb dX3_setMember_0 rfl (lv_at hl 1 rfl) ?_
  have hP := hP.sub (ws' := [] ++ [(ma, aI E 10 fm)]) [0] rfl
  have hD := hD.sub (ws' := [] ++ [(ma, aI E 10 fm)]) [0] (by decide) rfl
  refine xci (va_runSN (As := [.int (nI j)]) (rest := []) ⟨hx, hb, hml, hown, hts⟩ (kX7_isRole l E (nI j)  H.size) ⟨va_cnB 1 hts gX3_setMember_X7_isRole_n18 rfl rfl rfl (xNM2 hev.2.1) hiniX7 (by decide +kernel) ⟨Nat.le_of_ble_eq_true rfl, Nat.le_of_ble_eq_true rfl⟩, hstX7_isRole, trivial⟩ ⟨CP.blind, (xpre hev hz hA hP hD hS hR0 hap [] rfl)⟩ rfl rfl hl.1 rfl (lv_room (Nat.le_of_ble_eq_true rfl)) dX3_setMember_1 ⟨Nat.le_of_ble_eq_true rfl, Nat.le_of_ble_eq_true rfl⟩) hP hD hS hA (fun r1 w2 H locs h3 hP hD hS => ?_)
  obtain ⟨rfl, rfl, h3⟩ := h3
  try dsimp only at h3
  have hP : va_P E.1 vwCl [(ma, aI E 10 fm)] H := hP
  have hD : va_D A [(ma, aI E 10 fm)] := hD
  refine lv_if_eq (tgt := 45) hx hb dX3_setMember_4 (by decide) (fun c4 => absurd c4 (b1_n.mpr (⟨j, hj, rfl⟩))) (fun c4 => ?_)
  refine lv_iconst (v := 1) hx hb dX3_setMember_7 (by decide) ?_
  refine lv_iload_n hx hb dX3_setMember_8 rfl (lv_at hl 2 rfl) ?_
  refine lv_ishl hx hb dX3_setMember_9 ?_
  refine lv_istore (lv' := [(4, .int (1 <<< (k &&& 31))), (0, .ref o), (1, .int (nI j)), (2, .int k), (3, .int on)]) hx hb dX3_setMember_10 hl (by decide) rfl (fun ls hl => ?_)
  refine lv_aload_n hx hb dX3_setMember_12 rfl (lv_at hl 1 rfl) ?_
  refine va_get (D := E.1) (ci := 4) (v := .ref ma) (C := RX3) (T := TX3) (N := 2) hx hb hts hiX3 hown hev.1 (xro hR0 hap hS) 0 rfl rfl 1 (by decide) hf15 (fun _ h9 => h9) rfl dX3_setMember_13 ?_
  refine lv_iload_n hx hb dX3_setMember_16 rfl (lv_at hl 2 rfl) ?_
  refine lv_iload_n hx hb dX3_setMember_17 rfl (lv_at hl 4 rfl) ?_
  refine lv_if_eq (tgt := 33) hx hb dX3_setMember_18 (by decide) (fun c5 => ?_) (fun c5 => ?_)
  · skip
    refine lv_aload_n hx hb dX3_setMember_33 rfl (lv_at hl 1 rfl) ?_
    refine va_get (D := E.1) (ci := 4) (v := .ref ma) (C := RX3) (T := TX3) (N := 2) hx hb hts hiX3 hown hev.1 (xro hR0 hap hS) 0 rfl rfl 1 (by decide) hf15 (fun _ h9 => h9) rfl dX3_setMember_34 ?_
    refine lv_iload_n hx hb dX3_setMember_37 rfl (lv_at hl 2 rfl) ?_
    refine xiald (k := (j)) hx hb hev.1 hP 0 1 rfl rfl (by omega) (by decide) dX3_setMember_38 ?_
    refine lv_iload hx hb dX3_setMember_39 (lv_at hl 0 rfl) ?_
    refine lv_iconst (v := (-1)) hx hb dX3_setMember_41 (by decide) ?_
    refine lv_ixor hx hb dX3_setMember_42 ?_
    refine lv_iand hx hb dX3_setMember_43 ?_
    refine xiast (k := j) hx hb hev.1 hP hD hS 0 1 rfl rfl (by omega) (by decide) dX3_setMember_44 (fun H locs hP hD hS => ?_)
    obtain ⟨f6, ef6⟩ : ∃ y9_ : Nat → Int32, y9_ = upd fm j ((fm j) &&& ((1 <<< (k &&& 31)) ^^^ (-1))) := ⟨_, rfl⟩
    rw [← ef6] at hP hD
    have hP : va_P E.1 vwCl [(ma, aI E 10 f6)] H := hP
    have hD : va_D A [(ma, aI E 10 f6)] := hD
    refine xrv hx hb hr hlocks hP hD hS ⟨f6, rfl, ?_⟩ dX3_setMember_45
    exact ⟨fun _ => by subst_vars; rfl, fun h => absurd c5 h⟩
  · skip
    refine lv_aload_n hx hb dX3_setMember_21 rfl (lv_at hl 1 rfl) ?_
    refine va_get (D := E.1) (ci := 4) (v := .ref ma) (C := RX3) (T := TX3) (N := 2) hx hb hts hiX3 hown hev.1 (xro hR0 hap hS) 0 rfl rfl 1 (by decide) hf15 (fun _ h9 => h9) rfl dX3_setMember_22 ?_
    refine lv_iload_n hx hb dX3_setMember_25 rfl (lv_at hl 2 rfl) ?_
    refine xiald (k := (j)) hx hb hev.1 hP 0 1 rfl rfl (by omega) (by decide) dX3_setMember_26 ?_
    refine lv_iload hx hb dX3_setMember_27 (lv_at hl 0 rfl) ?_
    refine lv_ior hx hb dX3_setMember_29 ?_
    refine lv_goto (tgt := 44) hx hb dX3_setMember_30 (by decide) ?_
    refine xiast (k := j) hx hb hev.1 hP hD hS 0 1 rfl rfl (by omega) (by decide) dX3_setMember_44 (fun H locs hP hD hS => ?_)
    obtain ⟨f7, ef7⟩ : ∃ y9_ : Nat → Int32, y9_ = upd fm j ((fm j) ||| (1 <<< (k &&& 31))) := ⟨_, rfl⟩
    rw [← ef7] at hP hD
    have hP : va_P E.1 vwCl [(ma, aI E 10 f7)] H := hP
    have hD : va_D A [(ma, aI E 10 f7)] := hD
    refine xrv hx hb hr hlocks hP hD hS ⟨f7, rfl, ?_⟩ dX3_setMember_45
    exact ⟨fun h => absurd h c5, fun _ => by subst_vars; rfl⟩

abbrev pX3_copyFrom (E : xE) (o : Nat) (na : Nat) (ma : Nat) (fn : Nat → Int32) (fm : Nat → Int32) (o2 : Nat) (na2 : Nat) (ma2 : Nat) (fn2 : Nat → Int32) (fm2 : Nat → Int32) (w : va_W) : Prop := ∃ (gn : Nat → Int32) (gm : Nat → Int32), w = [(na, aI E 10 gn), (ma, aI E 10 gm)] ∧ (∀ k, k < 10 → gn k = fn2 k ∧ gm k = fm2 k)
set_option maxHeartbeats 4000000 in
set_option maxRecDepth 100000 in
theorem kX3_copyFrom (l : Launch) (E : xE) (o : Nat) (na : Nat) (ma : Nat) (fn : Nat → Int32) (fm : Nat → Int32) (o2 : Nat) (na2 : Nat) (ma2 : Nat) (fn2 : Nat → Int32) (fm2 : Nat → Int32)  : KT l yX3_copyFrom wsX3_copyFrom 0 0 0 0 E [(na, aI E 10 fn), (ma, aI E 10 fm)] [(o, .inr (4, [.ref na, .ref ma])), (o2, .inr (4, [.ref na2, .ref ma2])), (na2, aI E 10 fn2), (ma2, aI E 10 fm2)] [.ref o, .ref o2] (QV E (pX3_copyFrom E o na ma fn fm o2 na2 ma2 fn2 fm2)) := by
  refine KT.start (cc := cX3_copyFrom) (maxL := 3) (ret := none) (by decide) rfl (Nat.le_of_ble_eq_true rfl) ?_
  intro p e s m below meth c A H hx hb hr hlocks hml hts hown hin hP hR0 hD hap hev hz hA hS ls hl
  have hl : lv_has ls 3 [(0, .ref o), (1, .ref o2)] := hl
  have hiX3 : ∀ w ∈ wsX30, w ∈ wsX3_copyFrom := by decide +kernel
  have hf15 := hts (.fieldLink RX3 15 "SignQuorum$Roster" "members" "[I") (by decide +kernel)
  have hf9 := hts (.fieldLink RX3 9 "SignQuorum$Roster" "needed" "[I") (by decide +kernel)
  refine lv_iconst (v := 0) hx hb dX3_copyFrom_0 (by decide) ?_
  refine lv_istore_n (lv' := [(2, .int 0), (0, .ref o), (1, .ref o2)]) hx hb dX3_copyFrom_1 rfl hl (by decide) rfl (fun ls hl => ?_)
  have loop2 : ∀ (fz : Nat) (i : Nat) (gn : Nat → Int32) (gm : Nat → Int32), (i ≤ 10) → (∀ k, k < i → gn k = fn2 k ∧ gm k = fm2 k) → (10 - i < fz) → ∀ (H : Heap) (locs : List Loc), va_P E.1 vwCl [(na, aI E 10 gn), (ma, aI E 10 gm)] H → va_D A [(na, aI E 10 gn), (ma, aI E 10 gm)] → va_S A s.heap H locs → ∀ ls : Array Slot, lv_has ls 3 [(2, .int (nI i)), (0, .ref o), (1, .ref o2)] → W p l e ({ frames := 0, cells := 0, slots := 0, locals := 0 } : Room) s m ([.ref o, .ref o2] : List Value).toArray below meth c H locs 0 0 (MQ below (QV E (pX3_copyFrom E o na ma fn fm o2 na2 ma2 fn2 fm2) A) ([.ref o, .ref o2] : List Value).toArray s 0 0 A) (F0 m 2 ls []) := by
    intro fz
    induction fz with
    | zero =>
      intro i gn gm hi hg hfuel
      exact absurd hfuel (by omega)
    | succ fz ih =>
      intro i gn gm hi hg hfuel H locs hP hD hS ls hl
      refine lv_iload_n hx hb dX3_copyFrom_2 rfl (lv_at hl 0 rfl) ?_
      refine lv_bipush (v := 10) hx hb dX3_copyFrom_3 (by decide) ?_
      refine lv_icmp_ge (tgt := 38) hx hb dX3_copyFrom_5 (by decide) (fun c1 => ?_) (fun c1 => ?_)
      · skip
        have kc1 : 10 ≤ i := (nI_leI (a := 10) (b := i) (by omega) (by omega)).mp c1
        refine xrv hx hb hr hlocks hP hD hS ⟨gn, gm, rfl, ?_⟩ dX3_copyFrom_38
        exact fun k hk => hg k (by omega)
      · skip
        have kc1 : ¬ 10 ≤ i := fun h9 => c1 ((nI_leI (a := 10) (b := i) (by omega) (by omega)).mpr h9)
        refine lv_aload_n hx hb dX3_copyFrom_8 rfl (lv_at hl 1 rfl) ?_
        refine va_get (D := E.1) (ci := 4) (v := .ref na) (C := RX3) (T := TX3) (N := 2) hx hb hts hiX3 hown hev.1 (xro hR0 hap hS) 0 rfl rfl 0 (by decide) hf9 (fun _ h9 => h9) rfl dX3_copyFrom_9 ?_
        refine lv_iload_n hx hb dX3_copyFrom_12 rfl (lv_at hl 0 rfl) ?_
        refine lv_aload_n hx hb dX3_copyFrom_13 rfl (lv_at hl 2 rfl) ?_
        refine va_get (D := E.1) (ci := 4) (v := .ref na2) (C := RX3) (T := TX3) (N := 2) hx hb hts hiX3 hown hev.1 (xro hR0 hap hS) 1 rfl rfl 0 (by decide) hf9 (fun _ h9 => h9) rfl dX3_copyFrom_14 ?_
        refine lv_iload_n hx hb dX3_copyFrom_17 rfl (lv_at hl 0 rfl) ?_
        refine xiald (k := (i)) hx hb hev.1 (xro hR0 hap hS) 2 1 rfl rfl (by omega) (by decide) dX3_copyFrom_18 ?_
        refine xiast (k := i) hx hb hev.1 hP hD hS 0 1 rfl rfl (by omega) (by decide) dX3_copyFrom_19 (fun H locs hP hD hS => ?_)
        obtain ⟨f2, ef2⟩ : ∃ y9_ : Nat → Int32, y9_ = upd gn i (fn2 i) := ⟨_, rfl⟩
        rw [← ef2] at hP hD
        have hP : va_P E.1 vwCl [(na, aI E 10 f2), (ma, aI E 10 gm)] H := hP
        have hD : va_D A [(na, aI E 10 f2), (ma, aI E 10 gm)] := hD
        refine lv_aload_n hx hb dX3_copyFrom_20 rfl (lv_at hl 1 rfl) ?_
        refine va_get (D := E.1) (ci := 4) (v := .ref ma) (C := RX3) (T := TX3) (N := 2) hx hb hts hiX3 hown hev.1 (xro hR0 hap hS) 0 rfl rfl 1 (by decide) hf15 (fun _ h9 => h9) rfl dX3_copyFrom_21 ?_
        refine lv_iload_n hx hb dX3_copyFrom_24 rfl (lv_at hl 0 rfl) ?_
        refine lv_aload_n hx hb dX3_copyFrom_25 rfl (lv_at hl 2 rfl) ?_
        refine va_get (D := E.1) (ci := 4) (v := .ref ma2) (C := RX3) (T := TX3) (N := 2) hx hb hts hiX3 hown hev.1 (xro hR0 hap hS) 1 rfl rfl 1 (by decide) hf15 (fun _ h9 => h9) rfl dX3_copyFrom_26 ?_
        refine lv_iload_n hx hb dX3_copyFrom_29 rfl (lv_at hl 0 rfl) ?_
        refine xiald (k := (i)) hx hb hev.1 (xro hR0 hap hS) 3 1 rfl rfl (by omega) (by decide) dX3_copyFrom_30 ?_
        refine xiast (k := i) hx hb hev.1 hP hD hS 1 1 rfl rfl (by omega) (by decide) dX3_copyFrom_31 (fun H locs hP hD hS => ?_)
        obtain ⟨f3, ef3⟩ : ∃ y9_ : Nat → Int32, y9_ = upd gm i (fm2 i) := ⟨_, rfl⟩
        rw [← ef3] at hP hD
        have hP : va_P E.1 vwCl [(na, aI E 10 f2), (ma, aI E 10 f3)] H := hP
        have hD : va_D A [(na, aI E 10 f2), (ma, aI E 10 f3)] := hD
        refine lv_iinc (v := nI (i + 1)) (lv' := [(2, .int (nI (i + 1))), (0, .ref o), (1, .ref o2)]) hx hb dX3_copyFrom_32 hl (k := 0) rfl ((nI_add i 1).trans (congrArg nI (by omega))) (by decide) rfl (fun ls hl => ?_)
        refine lv_goto (tgt := 2) hx hb dX3_copyFrom_35 (by decide) ?_
        exact ih  (i + 1) f2 f3 (by omega) (lt_s (fun k hk => by rw [ef2, ef3, upd_ne (by omega), upd_ne (by omega)]; exact hg k hk) (by rw [ef2, ef3, upd_self, upd_self]; exact ⟨rfl, rfl⟩)) (by omega) _ _ hP hD hS ls (lv_sub hl [0, 1, 2] rfl)
  exact loop2 11 0 fn fm (by omega) (fun _ h => absurd h (by omega)) (by omega) _ _ hP hD hS ls (lv_sub hl [0, 1, 2] rfl)

abbrev pX3_isMetBy (E : xE) (o : Nat) (na : Nat) (ma : Nat) (fn : Nat → Int32) (fm : Nat → Int32) (ks : Int32) (j : Nat) (r : Int32) (w : va_W) : Prop := w = [] ∧ r = b1 (¬ jbc (ks &&& fm j) < fn j) ∧ (True)
set_option maxHeartbeats 4000000 in
set_option maxRecDepth 100000 in
theorem kX3_isMetBy (l : Launch) (E : xE) (o : Nat) (na : Nat) (ma : Nat) (fn : Nat → Int32) (fm : Nat → Int32) (ks : Int32) (j : Nat) (hj : j < 10) : KT l yX3_isMetBy wsX3_isMetBy 1 20 0 0 E [] [(o, .inr (4, [.ref na, .ref ma])), (na, aI E 10 fn), (ma, aI E 10 fm)] [.ref o, .int ks, .int (nI j)] (QI E (pX3_isMetBy E o na ma fn fm ks j)) := by
  refine KT.start (cc := cX3_isMetBy) (maxL := 3) (ret := (some .boolean)) (by decide) rfl (Nat.le_of_ble_eq_true rfl) ?_
  intro p e s m below meth c A H hx hb hr hlocks hml hts hown hin hP hR0 hD hap hev hz hA hS ls hl
  have hl : lv_has ls 3 [(0, .ref o), (1, .int ks), (2, .int (nI j))] := hl
  have hiX3 : ∀ w ∈ wsX30, w ∈ wsX3_isMetBy := by decide +kernel
  have hf15 := hts (.fieldLink RX3 15 "SignQuorum$Roster" "members" "[I") (by decide +kernel)
  have hf9 := hts (.fieldLink RX3 9 "SignQuorum$Roster" "needed" "[I") (by decide +kernel)
  have hiniX7 := hts (.initialized RX7) (by decide +kernel)
  have hstX7_isRole := hts (.static yX7_isRole) (by decide +kernel)
  refine lv_iload_n hx hb dX3_isMetBy_0 rfl (lv_at hl 2 rfl) ?_
  have hP := hP.sub (ws' := [] ++ []) [] rfl
  have hD := hD.sub (ws' := [] ++ []) [] (by decide) rfl
  refine xci (va_runSN (As := [.int (nI j)]) (rest := []) ⟨hx, hb, hml, hown, hts⟩ (kX7_isRole l E (nI j)  H.size) ⟨va_cnB 1 hts gX3_isMetBy_X7_isRole_n18 rfl rfl rfl (xNM2 hev.2.1) hiniX7 (by decide +kernel) ⟨Nat.le_of_ble_eq_true rfl, Nat.le_of_ble_eq_true rfl⟩, hstX7_isRole, trivial⟩ ⟨CP.blind, (xpre hev hz hA hP hD hS hR0 hap [] rfl)⟩ rfl rfl hl.1 rfl (lv_room (Nat.le_of_ble_eq_true rfl)) dX3_isMetBy_1 ⟨Nat.le_of_ble_eq_true rfl, Nat.le_of_ble_eq_true rfl⟩) hP hD hS hA (fun r1 w2 H locs h3 hP hD hS => ?_)
  obtain ⟨rfl, rfl, h3⟩ := h3
  try dsimp only at h3
  have hP : va_P E.1 vwCl [] H := hP
  have hD : va_D A [] := hD
  refine lv_if_eq (tgt := 31) hx hb dX3_isMetBy_4 (by decide) (fun c4 => absurd c4 (b1_n.mpr (⟨j, hj, rfl⟩))) (fun c4 => ?_)
  refine lv_iload_n hx hb dX3_isMetBy_7 rfl (lv_at hl 1 rfl) ?_
  refine lv_aload_n hx hb dX3_isMetBy_8 rfl (lv_at hl 0 rfl) ?_
  refine va_get (D := E.1) (ci := 4) (v := .ref ma) (C := RX3) (T := TX3) (N := 2) hx hb hts hiX3 hown hev.1 (xro hR0 hap hS) 0 rfl rfl 1 (by decide) hf15 (fun _ h9 => h9) rfl dX3_isMetBy_9 ?_
  refine lv_iload_n hx hb dX3_isMetBy_12 rfl (lv_at hl 2 rfl) ?_
  refine xiald (k := (j)) hx hb hev.1 (xro hR0 hap hS) 2 1 rfl rfl (by omega) (by decide) dX3_isMetBy_13 ?_
  refine lv_iand hx hb dX3_isMetBy_14 ?_
  have hP := hP.sub (ws' := [] ++ []) [] rfl
  have hD := hD.sub (ws' := [] ++ []) [] (by decide) rfl
  refine xci (va_runS (As := [.int (ks &&& (fm j))]) (rest := []) ⟨hx, hb, hml, hown, hts⟩ (kJ6_bitCount_0f7a4 l E (ks &&& (fm j))  H.size) (va_cwS 1 hts gX3_isMetBy_J6_bitCount_0f7a4 rfl rfl rfl (by decide +kernel) ⟨Nat.le_of_ble_eq_true rfl, Nat.le_of_ble_eq_true rfl⟩) ⟨CP.blind, (xpre hev hz hA hP hD hS hR0 hap [] rfl)⟩ rfl rfl hl.1 rfl (lv_room (Nat.le_of_ble_eq_true rfl)) dX3_isMetBy_15 ⟨Nat.le_of_ble_eq_true rfl, Nat.le_of_ble_eq_true rfl⟩) hP hD hS hA (fun r5 w6 H locs h7 hP hD hS => ?_)
  obtain ⟨rfl, rfl, h7⟩ := h7
  try dsimp only at h7
  have hP : va_P E.1 vwCl [] H := hP
  have hD : va_D A [] := hD
  refine lv_aload_n hx hb dX3_isMetBy_18 rfl (lv_at hl 0 rfl) ?_
  refine va_get (D := E.1) (ci := 4) (v := .ref na) (C := RX3) (T := TX3) (N := 2) hx hb hts hiX3 hown hev.1 (xro hR0 hap hS) 0 rfl rfl 0 (by decide) hf9 (fun _ h9 => h9) rfl dX3_isMetBy_19 ?_
  refine lv_iload_n hx hb dX3_isMetBy_22 rfl (lv_at hl 2 rfl) ?_
  refine xiald (k := (j)) hx hb hev.1 (xro hR0 hap hS) 1 1 rfl rfl (by omega) (by decide) dX3_isMetBy_23 ?_
  refine lv_icmp_lt (tgt := 31) hx hb dX3_isMetBy_24 (by decide) (fun c8 => ?_) (fun c8 => ?_)
  · skip
    refine lv_iconst (v := 0) hx hb dX3_isMetBy_31 (by decide) ?_
    refine xrz hx hb hr hlocks (by first | rfl | decide) hP hD hS ⟨rfl, ?_, ?_⟩ dX3_isMetBy_32
    · exact (b1_f (fun h9 => h9 c8)).symm
    · trivial
  · skip
    refine lv_iconst (v := 1) hx hb dX3_isMetBy_27 (by decide) ?_
    refine lv_goto (tgt := 32) hx hb dX3_isMetBy_28 (by decide) ?_
    refine xrz hx hb hr hlocks (by first | rfl | decide) hP hD hS ⟨rfl, ?_, ?_⟩ dX3_isMetBy_32
    · exact (b1_t c8).symm
    · trivial
