abbrev pX5_init (E : xE) (h : Nat) (w : va_W) : Prop := ∃ (ms : Nat) (sc : Nat) (sa : Nat), w = [(h, .inr (6, [.ref ms, .ref sc, .ref sa, .int 0])), (ms, aB E 128 (fun _ => 0)), (sc, aI E 64 (fun _ => 0)), (sa, aI E 8 (fun _ => 0))] ∧ (True)
set_option maxHeartbeats 4000000 in
set_option maxRecDepth 100000 in
theorem kX5_init (l : Launch) (E : xE) (h : Nat)  : KT l yX5_init wsX5_init 1 12 3 200 E [(h, .inr (6, [.null, .null, .null, .int 0]))] [] [.ref h] (QV E (pX5_init E h)) := by
  refine KT.start (cc := cX5_init) (maxL := 1) (ret := none) (by decide) rfl (Nat.le_of_ble_eq_true rfl) ?_
  intro p e s m below meth c A H hx hb hr hlocks hml hts hown hin hP hR0 hD hap hev hz hA hS ls hl
  have hl : lv_has ls 1 [(0, .ref h)] := hl
  have hiX5 : ∀ w ∈ wsX50, w ∈ wsX5_init := by decide +kernel
  have hacB := hts (.arrayClass .byte) (by decide +kernel)
  have hacI := hts (.arrayClass .int) (by decide +kernel)
  have hf11 := hts (.fieldLink RX5 11 "SignQuorum$Sha256" "message" "[B") (by decide +kernel)
  have hf15 := hts (.fieldLink RX5 15 "SignQuorum$Sha256" "schedule" "[I") (by decide +kernel)
  have hf19 := hts (.fieldLink RX5 19 "SignQuorum$Sha256" "state" "[I") (by decide +kernel)
  have hf22 := hts (.fieldLink RX5 22 "SignQuorum$Sha256" "length" "I") (by decide +kernel)
  have hoi5 := hts (.methodLink RX5 5 objectInit) (by decide +kernel)
  have hoj := hts (.instanceMethod objectInit) (by decide +kernel)
  refine lv_aload_n hx hb dX5_init_0 rfl (lv_at hl 0 rfl) ?_
  refine W.objInit hx hb hown hoi5 hoj (hts _ (List.mem_of_getElem? (i := 3) rfl)) rfl (by rw [hml]; exact hl.1) rfl dX5_init_1 (Nat.le_of_ble_eq_true rfl) (Nat.le_of_ble_eq_true rfl) ?_
  refine W.eq (g2 := F0 m 4 ls []) rfl ?_
  refine lv_aload_n hx hb dX5_init_4 rfl (lv_at hl 0 rfl) ?_
  refine lv_sipush (v := 128) hx hb dX5_init_5 (by decide) ?_
  refine xnewa (atype := .byte) (ty := .byte) (cA0 := E.2 0) (N' := 128) (a0 := (128, (.inl (fun _ => 0)))) hx hb hacB rfl 0 hev rfl hP hD hS hA (fun _ => rfl) (by decide) (by decide) (by decide +kernel) (Nat.le_of_ble_eq_true rfl) (Nat.le_of_ble_eq_true rfl) dX5_init_8 (fun q1 H hP hD hS => ?_)
  have hP : va_P E.1 vwCl [(h, .inr (6, [.null, .null, .null, .int 0])), (q1, aB E 128 (fun _ => 0))] H := hP
  have hD : va_D A [(h, .inr (6, [.null, .null, .null, .int 0])), (q1, aB E 128 (fun _ => 0))] := hD
  refine va_putF (D := E.1) (ci := 6) (v := .ref q1) (ty := tyX5 0) (C := RX5) (T := TX5) (N := 4) hx hb hts hiX5 tyX5 tyX5_ok nmX5 hown hev.1 hP hD hS 0 rfl rfl 0 (by decide) hf11 (fun _ h9 => h9) rfl hin rfl (tyX5_ok 0 (by decide)) rfl rfl (Nat.le_of_ble_eq_true rfl) dX5_init_10 (fun H locs hP hD hS => ?_)
  have hP : va_P E.1 vwCl [(h, .inr (6, [.ref q1, .null, .null, .int 0])), (q1, aB E 128 (fun _ => 0))] H := hP
  have hD : va_D A [(h, .inr (6, [.ref q1, .null, .null, .int 0])), (q1, aB E 128 (fun _ => 0))] := hD
  refine lv_aload_n hx hb dX5_init_13 rfl (lv_at hl 0 rfl) ?_
  refine lv_bipush (v := 64) hx hb dX5_init_14 (by decide) ?_
  refine xnewa (atype := .int) (ty := .int) (cA0 := E.2 1) (N' := 64) (a0 := (64, (.inl (fun _ => 0)))) hx hb hacI rfl 1 hev rfl hP hD hS hA (fun _ => rfl) (by decide) (by decide) (by decide +kernel) (Nat.le_of_ble_eq_true rfl) (Nat.le_of_ble_eq_true rfl) dX5_init_16 (fun q2 H hP hD hS => ?_)
  have hP : va_P E.1 vwCl [(h, .inr (6, [.ref q1, .null, .null, .int 0])), (q1, aB E 128 (fun _ => 0)), (q2, aI E 64 (fun _ => 0))] H := hP
  have hD : va_D A [(h, .inr (6, [.ref q1, .null, .null, .int 0])), (q1, aB E 128 (fun _ => 0)), (q2, aI E 64 (fun _ => 0))] := hD
  refine va_putF (D := E.1) (ci := 6) (v := .ref q2) (ty := tyX5 1) (C := RX5) (T := TX5) (N := 4) hx hb hts hiX5 tyX5 tyX5_ok nmX5 hown hev.1 hP hD hS 0 rfl rfl 1 (by decide) hf15 (fun _ h9 => h9) rfl hin rfl (tyX5_ok 1 (by decide)) rfl rfl (Nat.le_of_ble_eq_true rfl) dX5_init_18 (fun H locs hP hD hS => ?_)
  have hP : va_P E.1 vwCl [(h, .inr (6, [.ref q1, .ref q2, .null, .int 0])), (q1, aB E 128 (fun _ => 0)), (q2, aI E 64 (fun _ => 0))] H := hP
  have hD : va_D A [(h, .inr (6, [.ref q1, .ref q2, .null, .int 0])), (q1, aB E 128 (fun _ => 0)), (q2, aI E 64 (fun _ => 0))] := hD
  refine lv_aload_n hx hb dX5_init_21 rfl (lv_at hl 0 rfl) ?_
  refine lv_bipush (v := 8) hx hb dX5_init_22 (by decide) ?_
  refine xnewa (atype := .int) (ty := .int) (cA0 := E.2 1) (N' := 8) (a0 := (8, (.inl (fun _ => 0)))) hx hb hacI rfl 1 hev rfl hP hD hS hA (fun _ => rfl) (by decide) (by decide) (by decide +kernel) (Nat.le_of_ble_eq_true rfl) (Nat.le_of_ble_eq_true rfl) dX5_init_24 (fun q3 H hP hD hS => ?_)
  have hP : va_P E.1 vwCl [(h, .inr (6, [.ref q1, .ref q2, .null, .int 0])), (q1, aB E 128 (fun _ => 0)), (q2, aI E 64 (fun _ => 0)), (q3, aI E 8 (fun _ => 0))] H := hP
  have hD : va_D A [(h, .inr (6, [.ref q1, .ref q2, .null, .int 0])), (q1, aB E 128 (fun _ => 0)), (q2, aI E 64 (fun _ => 0)), (q3, aI E 8 (fun _ => 0))] := hD
  refine va_putF (D := E.1) (ci := 6) (v := .ref q3) (ty := tyX5 2) (C := RX5) (T := TX5) (N := 4) hx hb hts hiX5 tyX5 tyX5_ok nmX5 hown hev.1 hP hD hS 0 rfl rfl 2 (by decide) hf19 (fun _ h9 => h9) rfl hin rfl (tyX5_ok 2 (by decide)) rfl rfl (Nat.le_of_ble_eq_true rfl) dX5_init_26 (fun H locs hP hD hS => ?_)
  have hP : va_P E.1 vwCl [(h, .inr (6, [.ref q1, .ref q2, .ref q3, .int 0])), (q1, aB E 128 (fun _ => 0)), (q2, aI E 64 (fun _ => 0)), (q3, aI E 8 (fun _ => 0))] H := hP
  have hD : va_D A [(h, .inr (6, [.ref q1, .ref q2, .ref q3, .int 0])), (q1, aB E 128 (fun _ => 0)), (q2, aI E 64 (fun _ => 0)), (q3, aI E 8 (fun _ => 0))] := hD
  refine lv_aload_n hx hb dX5_init_29 rfl (lv_at hl 0 rfl) ?_
  refine lv_iconst (v := 0) hx hb dX5_init_30 (by decide) ?_
  refine va_put (D := E.1) (ci := 6) (v := .int 0) (ty := tyX5 3) (C := RX5) (T := TX5) (N := 4) hx hb hts hiX5 tyX5 tyX5_ok nmX5 hown hev.1 hP hD hS 0 rfl rfl 3 (by decide) hf22 (fun _ h9 => h9) rfl (tyX5_ok 3 (by decide)) rfl rfl (Nat.le_of_ble_eq_true rfl) dX5_init_31 (fun H locs hP hD hS => ?_)
  have hP : va_P E.1 vwCl [(h, .inr (6, [.ref q1, .ref q2, .ref q3, .int 0])), (q1, aB E 128 (fun _ => 0)), (q2, aI E 64 (fun _ => 0)), (q3, aI E 8 (fun _ => 0))] H := hP
  have hD : va_D A [(h, .inr (6, [.ref q1, .ref q2, .ref q3, .int 0])), (q1, aB E 128 (fun _ => 0)), (q2, aI E 64 (fun _ => 0)), (q3, aI E 8 (fun _ => 0))] := hD
  refine xrv hx hb hr hlocks hP hD hS ⟨q1, q2, q3, rfl, ?_⟩ dX5_init_34
  trivial

abbrev pX5_begin (E : xE) (h : Nat) (ms : Nat) (sc : Nat) (sa : Nat) (n : Nat) (w : va_W) : Prop := w = [(h, .inr (6, [.ref ms, .ref sc, .ref sa, .int 0]))] ∧ (True)
set_option maxHeartbeats 4000000 in
set_option maxRecDepth 100000 in
theorem kX5_begin (l : Launch) (E : xE) (h : Nat) (ms : Nat) (sc : Nat) (sa : Nat) (n : Nat)  : KT l yX5_begin wsX5_begin 0 0 0 0 E [(h, .inr (6, [.ref ms, .ref sc, .ref sa, .int (nI n)]))] [] [.ref h] (QV E (pX5_begin E h ms sc sa n)) := by
  refine KT.start (cc := cX5_begin) (maxL := 1) (ret := none) (by decide) rfl (Nat.le_of_ble_eq_true rfl) ?_
  intro p e s m below meth c A H hx hb hr hlocks hml hts hown hin hP hR0 hD hap hev hz hA hS ls hl
  have hl : lv_has ls 1 [(0, .ref h)] := hl
  have hiX5 : ∀ w ∈ wsX50, w ∈ wsX5_begin := by decide +kernel
  have hf22 := hts (.fieldLink RX5 22 "SignQuorum$Sha256" "length" "I") (by decide +kernel)
  refine lv_aload_n hx hb dX5_begin_0 rfl (lv_at hl 0 rfl) ?_
  refine lv_iconst (v := 0) hx hb dX5_begin_1 (by decide) ?_
  refine va_put (D := E.1) (ci := 6) (v := .int 0) (ty := tyX5 3) (C := RX5) (T := TX5) (N := 4) hx hb hts hiX5 tyX5 tyX5_ok nmX5 hown hev.1 hP hD hS 0 rfl rfl 3 (by decide) hf22 (fun _ h9 => h9) rfl (tyX5_ok 3 (by decide)) rfl rfl (Nat.le_of_ble_eq_true rfl) dX5_begin_2 (fun H locs hP hD hS => ?_)
  have hP : va_P E.1 vwCl [(h, .inr (6, [.ref ms, .ref sc, .ref sa, .int 0]))] H := hP
  have hD : va_D A [(h, .inr (6, [.ref ms, .ref sc, .ref sa, .int 0]))] := hD
  refine xrv hx hb hr hlocks hP hD hS ⟨rfl, ?_⟩ dX5_begin_5
  trivial

abbrev pX5_length (E : xE) (h : Nat) (ms : Nat) (sc : Nat) (sa : Nat) (n : Nat) (r : Int32) (w : va_W) : Prop := w = [] ∧ r = nI n ∧ (True)
set_option maxHeartbeats 4000000 in
set_option maxRecDepth 100000 in
theorem kX5_length (l : Launch) (E : xE) (h : Nat) (ms : Nat) (sc : Nat) (sa : Nat) (n : Nat)  : KT l yX5_length wsX5_length 0 0 0 0 E [] [(h, .inr (6, [.ref ms, .ref sc, .ref sa, .int (nI n)]))] [.ref h] (QI E (pX5_length E h ms sc sa n)) := by
  refine KT.start (cc := cX5_length) (maxL := 1) (ret := (some .int)) (by decide) rfl (Nat.le_of_ble_eq_true rfl) ?_
  intro p e s m below meth c A H hx hb hr hlocks hml hts hown hin hP hR0 hD hap hev hz hA hS ls hl
  have hl : lv_has ls 1 [(0, .ref h)] := hl
  have hiX5 : ∀ w ∈ wsX50, w ∈ wsX5_length := by decide +kernel
  have hf22 := hts (.fieldLink RX5 22 "SignQuorum$Sha256" "length" "I") (by decide +kernel)
  refine lv_aload_n hx hb dX5_length_0 rfl (lv_at hl 0 rfl) ?_
  refine va_get (D := E.1) (ci := 6) (v := .int (nI n)) (C := RX5) (T := TX5) (N := 4) hx hb hts hiX5 hown hev.1 (xro hR0 hap hS) 0 rfl rfl 3 (by decide) hf22 (fun _ h9 => h9) rfl dX5_length_1 ?_
  refine xri hx hb hr hlocks hP hD hS ⟨rfl, ?_, ?_⟩ dX5_length_4
  · rfl
  · trivial

abbrev pX5_putByte (E : xE) (h : Nat) (ms : Nat) (sc : Nat) (sa : Nat) (n : Nat) (f : Nat → Int32) (b : Int32) (w : va_W) : Prop := ∃ (g : Nat → Int32), w = [(h, .inr (6, [.ref ms, .ref sc, .ref sa, .int (nI (n + 1))])), (ms, aB E 128 g)] ∧ (g = ap f n [by8 b])
set_option maxHeartbeats 4000000 in
set_option maxRecDepth 100000 in
theorem kX5_putByte (l : Launch) (E : xE) (h : Nat) (ms : Nat) (sc : Nat) (sa : Nat) (n : Nat) (f : Nat → Int32) (b : Int32) (hn : n < 119) : KT l yX5_putByte wsX5_putByte 0 0 0 0 E [(h, .inr (6, [.ref ms, .ref sc, .ref sa, .int (nI n)])), (ms, aB E 128 f)] [] [.ref h, .int b] (QV E (pX5_putByte E h ms sc sa n f b)) := by
  refine KT.start (cc := cX5_putByte) (maxL := 2) (ret := none) (by decide) rfl (Nat.le_of_ble_eq_true rfl) ?_
  intro p e s m below meth c A H hx hb hr hlocks hml hts hown hin hP hR0 hD hap hev hz hA hS ls hl
  have hl : lv_has ls 2 [(0, .ref h), (1, .int b)] := hl
  have hiX5 : ∀ w ∈ wsX50, w ∈ wsX5_putByte := by decide +kernel
  have hf11 := hts (.fieldLink RX5 11 "SignQuorum$Sha256" "message" "[B") (by decide +kernel)
  have hf22 := hts (.fieldLink RX5 22 "SignQuorum$Sha256" "length" "I") (by decide +kernel)
  refine lv_aload_n hx hb dX5_putByte_0 rfl (lv_at hl 0 rfl) ?_
  refine va_get (D := E.1) (ci := 6) (v := .int (nI n)) (C := RX5) (T := TX5) (N := 4) hx hb hts hiX5 hown hev.1 hP 0 rfl rfl 3 (by decide) hf22 (fun _ h9 => h9) rfl dX5_putByte_1 ?_
  refine lv_bipush (v := 119) hx hb dX5_putByte_4 (by decide) ?_
  refine lv_icmp_ge (tgt := 30) hx hb dX5_putByte_6 (by decide) (fun c1 => absurd c1 (fun h9 => absurd ((nI_leI (a := 119) (b := n) (by omega) (by omega)).mp h9) (by omega))) (fun c1 => ?_)
  refine lv_aload_n hx hb dX5_putByte_9 rfl (lv_at hl 0 rfl) ?_
  refine va_get (D := E.1) (ci := 6) (v := .ref ms) (C := RX5) (T := TX5) (N := 4) hx hb hts hiX5 hown hev.1 hP 0 rfl rfl 0 (by decide) hf11 (fun _ h9 => h9) rfl dX5_putByte_10 ?_
  refine lv_aload_n hx hb dX5_putByte_13 rfl (lv_at hl 0 rfl) ?_
  refine va_get (D := E.1) (ci := 6) (v := .int (nI n)) (C := RX5) (T := TX5) (N := 4) hx hb hts hiX5 hown hev.1 hP 0 rfl rfl 3 (by decide) hf22 (fun _ h9 => h9) rfl dX5_putByte_14 ?_
  refine lv_iload_n hx hb dX5_putByte_17 rfl (lv_at hl 1 rfl) ?_
  refine lv_i2b (v := b.toInt8.toInt32) hx hb dX5_putByte_18 rfl ?_
  refine xbast (k := n) hx hb hev.1 hP hD hS 1 0 rfl rfl (by omega) (by decide) dX5_putByte_19 (fun H locs hP hD hS => ?_)
  obtain ⟨f2, ef2⟩ : ∃ y9_ : Nat → Int32, y9_ = upd f n (vp_nar .byte b.toInt8.toInt32) := ⟨_, rfl⟩
  rw [← ef2] at hP hD
  have hP : va_P E.1 vwCl [(h, .inr (6, [.ref ms, .ref sc, .ref sa, .int (nI n)])), (ms, aB E 128 f2)] H := hP
  have hD : va_D A [(h, .inr (6, [.ref ms, .ref sc, .ref sa, .int (nI n)])), (ms, aB E 128 f2)] := hD
  refine lv_aload_n hx hb dX5_putByte_20 rfl (lv_at hl 0 rfl) ?_
  refine lv_dup hx hb dX5_putByte_21 rfl ?_
  refine va_get (D := E.1) (ci := 6) (v := .int (nI n)) (C := RX5) (T := TX5) (N := 4) hx hb hts hiX5 hown hev.1 hP 0 rfl rfl 3 (by decide) hf22 (fun _ h9 => h9) rfl dX5_putByte_22 ?_
  refine lv_iconst (v := 1) hx hb dX5_putByte_25 (by decide) ?_
  refine lv_iadd hx hb dX5_putByte_26 ?_
  refine xtop (y := nI (n + 1)) ((nI_add n 1).trans (congrArg nI (by omega))) ?_
  refine va_put (D := E.1) (ci := 6) (v := .int (nI (n + 1))) (ty := tyX5 3) (C := RX5) (T := TX5) (N := 4) hx hb hts hiX5 tyX5 tyX5_ok nmX5 hown hev.1 hP hD hS 0 rfl rfl 3 (by decide) hf22 (fun _ h9 => h9) rfl (tyX5_ok 3 (by decide)) rfl rfl (Nat.le_of_ble_eq_true rfl) dX5_putByte_27 (fun H locs hP hD hS => ?_)
  have hP : va_P E.1 vwCl [(h, .inr (6, [.ref ms, .ref sc, .ref sa, .int (nI (n + 1))])), (ms, aB E 128 f2)] H := hP
  have hD : va_D A [(h, .inr (6, [.ref ms, .ref sc, .ref sa, .int (nI (n + 1))])), (ms, aB E 128 f2)] := hD
  refine xrv hx hb hr hlocks hP hD hS ⟨f2, rfl, ?_⟩ dX5_putByte_30
  subst_vars
  rw [pk_vb]
  rfl

abbrev pX5_putInt (E : xE) (h : Nat) (ms : Nat) (sc : Nat) (sa : Nat) (n : Nat) (f : Nat → Int32) (x : Int32) (w : va_W) : Prop := ∃ (g : Nat → Int32), w = [(h, .inr (6, [.ref ms, .ref sc, .ref sa, .int (nI (n + 4))])), (ms, aB E 128 g)] ∧ (g = ap f n (bI x))
set_option maxHeartbeats 4000000 in
set_option maxRecDepth 100000 in
theorem kX5_putInt (l : Launch) (E : xE) (h : Nat) (ms : Nat) (sc : Nat) (sa : Nat) (n : Nat) (f : Nat → Int32) (x : Int32) (hn : n + 4 ≤ 119) : KT l yX5_putInt wsX5_putInt 1 21 0 0 E [(h, .inr (6, [.ref ms, .ref sc, .ref sa, .int (nI n)])), (ms, aB E 128 f)] [] [.ref h, .int x] (QV E (pX5_putInt E h ms sc sa n f x)) := by
  refine KT.start (cc := cX5_putInt) (maxL := 3) (ret := none) (by decide) rfl (Nat.le_of_ble_eq_true rfl) ?_
  intro p e s m below meth c A H hx hb hr hlocks hml hts hown hin hP hR0 hD hap hev hz hA hS ls hl
  have hl : lv_has ls 3 [(0, .ref h), (1, .int x)] := hl
  refine lv_bipush (v := 24) hx hb dX5_putInt_0 (by decide) ?_
  refine lv_istore_n (lv' := [(2, .int 24), (0, .ref h), (1, .int x)]) hx hb dX5_putInt_2 rfl hl (by decide) rfl (fun ls hl => ?_)
  refine lv_iload_n hx hb dX5_putInt_3 rfl (lv_at hl 0 rfl) ?_
  refine lv_if_lt (tgt := 20) hx hb dX5_putInt_4 (by decide) (fun c1 => absurd c1 (by decide)) (fun c1 => ?_)
  refine lv_aload_n hx hb dX5_putInt_7 rfl (lv_at hl 1 rfl) ?_
  refine lv_iload_n hx hb dX5_putInt_8 rfl (lv_at hl 2 rfl) ?_
  refine lv_iload_n hx hb dX5_putInt_9 rfl (lv_at hl 0 rfl) ?_
  refine lv_iushr (v := (x.toUInt32 >>> ((24 : Int32).toUInt32 &&& Int32.toUInt32 31)).toInt32) hx hb dX5_putInt_10 rfl ?_
  have hP := hP.sub (ws' := [(h, .inr (6, [.ref ms, .ref sc, .ref sa, .int (nI n)])), (ms, aB E 128 f)] ++ []) [0, 1] rfl
  have hD := hD.sub (ws' := [(h, .inr (6, [.ref ms, .ref sc, .ref sa, .int (nI n)])), (ms, aB E 128 f)] ++ []) [0, 1] (by decide) rfl
  refine xcv (va_runV (As := [.int ((x.toUInt32 >>> ((24 : Int32).toUInt32 &&& Int32.toUInt32 31)).toInt32)]) (rest := []) ⟨hx, hb, hml, hown, hts⟩ (kX5_putByte l E h ms sc sa n f ((x.toUInt32 >>> ((24 : Int32).toUInt32 &&& Int32.toUInt32 31)).toInt32) (by first | assumption | omega) H.size) (cwV 1 hts gX5_putInt_X5_putByte rfl rfl rfl (by decide +kernel) ⟨Nat.le_of_ble_eq_true rfl, Nat.le_of_ble_eq_true rfl⟩) ⟨CP.blind, (va_recv hev.1 hP.left (ci := 6) (q0 := 0) rfl rfl), (xpre hev hz hA hP hD hS hR0 hap [] rfl)⟩ rfl rfl hl.1 rfl (lv_room (Nat.le_of_ble_eq_true rfl)) dX5_putInt_11 ⟨Nat.le_of_ble_eq_true rfl, Nat.le_of_ble_eq_true rfl⟩) hP hD hS hA (fun w3 H locs h4 hP hD hS => ?_)
  obtain ⟨g5, rfl, h4⟩ := h4
  try dsimp only at h4
  have hP : va_P E.1 vwCl [(h, .inr (6, [.ref ms, .ref sc, .ref sa, .int (nI (n + 1))])), (ms, aB E 128 g5)] H := hP
  have hD : va_D A [(h, .inr (6, [.ref ms, .ref sc, .ref sa, .int (nI (n + 1))])), (ms, aB E 128 g5)] := hD
  refine lv_iinc (v := 16) (lv' := [(2, .int 16), (0, .ref h), (1, .int x)]) hx hb dX5_putInt_14 hl (k := 0) rfl (by decide) (by decide) rfl (fun ls hl => ?_)
  refine lv_goto (tgt := 3) hx hb dX5_putInt_17 (by decide) ?_
  refine lv_iload_n hx hb dX5_putInt_3 rfl (lv_at hl 0 rfl) ?_
  refine lv_if_lt (tgt := 20) hx hb dX5_putInt_4 (by decide) (fun c6 => absurd c6 (by decide)) (fun c6 => ?_)
  refine lv_aload_n hx hb dX5_putInt_7 rfl (lv_at hl 1 rfl) ?_
  refine lv_iload_n hx hb dX5_putInt_8 rfl (lv_at hl 2 rfl) ?_
  refine lv_iload_n hx hb dX5_putInt_9 rfl (lv_at hl 0 rfl) ?_
  refine lv_iushr (v := (x.toUInt32 >>> ((16 : Int32).toUInt32 &&& Int32.toUInt32 31)).toInt32) hx hb dX5_putInt_10 rfl ?_
  have hP := hP.sub (ws' := [(h, .inr (6, [.ref ms, .ref sc, .ref sa, .int (nI (n + 1))])), (ms, aB E 128 g5)] ++ []) [0, 1] rfl
  have hD := hD.sub (ws' := [(h, .inr (6, [.ref ms, .ref sc, .ref sa, .int (nI (n + 1))])), (ms, aB E 128 g5)] ++ []) [0, 1] (by decide) rfl
  refine xcv (va_runV (As := [.int ((x.toUInt32 >>> ((16 : Int32).toUInt32 &&& Int32.toUInt32 31)).toInt32)]) (rest := []) ⟨hx, hb, hml, hown, hts⟩ (kX5_putByte l E h ms sc sa (n + 1) g5 ((x.toUInt32 >>> ((16 : Int32).toUInt32 &&& Int32.toUInt32 31)).toInt32) (by first | assumption | omega) H.size) (cwV 1 hts gX5_putInt_X5_putByte rfl rfl rfl (by decide +kernel) ⟨Nat.le_of_ble_eq_true rfl, Nat.le_of_ble_eq_true rfl⟩) ⟨CP.blind, (va_recv hev.1 hP.left (ci := 6) (q0 := 0) rfl rfl), (xpre hev hz hA hP hD hS hR0 hap [] rfl)⟩ rfl rfl hl.1 rfl (lv_room (Nat.le_of_ble_eq_true rfl)) dX5_putInt_11 ⟨Nat.le_of_ble_eq_true rfl, Nat.le_of_ble_eq_true rfl⟩) hP hD hS hA (fun w8 H locs h9 hP hD hS => ?_)
  obtain ⟨g10, rfl, h9⟩ := h9
  try dsimp only at h9
  try rw [show ((n + 1) + 1 : Nat) = n + 2 by omega] at hP hD
  have hP : va_P E.1 vwCl [(h, .inr (6, [.ref ms, .ref sc, .ref sa, .int (nI (n + 2))])), (ms, aB E 128 g10)] H := hP
  have hD : va_D A [(h, .inr (6, [.ref ms, .ref sc, .ref sa, .int (nI (n + 2))])), (ms, aB E 128 g10)] := hD
  refine lv_iinc (v := 8) (lv' := [(2, .int 8), (0, .ref h), (1, .int x)]) hx hb dX5_putInt_14 hl (k := 0) rfl (by decide) (by decide) rfl (fun ls hl => ?_)
  refine lv_goto (tgt := 3) hx hb dX5_putInt_17 (by decide) ?_
  refine lv_iload_n hx hb dX5_putInt_3 rfl (lv_at hl 0 rfl) ?_
  refine lv_if_lt (tgt := 20) hx hb dX5_putInt_4 (by decide) (fun c11 => absurd c11 (by decide)) (fun c11 => ?_)
  refine lv_aload_n hx hb dX5_putInt_7 rfl (lv_at hl 1 rfl) ?_
  refine lv_iload_n hx hb dX5_putInt_8 rfl (lv_at hl 2 rfl) ?_
  refine lv_iload_n hx hb dX5_putInt_9 rfl (lv_at hl 0 rfl) ?_
  refine lv_iushr (v := (x.toUInt32 >>> ((8 : Int32).toUInt32 &&& Int32.toUInt32 31)).toInt32) hx hb dX5_putInt_10 rfl ?_
  have hP := hP.sub (ws' := [(h, .inr (6, [.ref ms, .ref sc, .ref sa, .int (nI (n + 2))])), (ms, aB E 128 g10)] ++ []) [0, 1] rfl
  have hD := hD.sub (ws' := [(h, .inr (6, [.ref ms, .ref sc, .ref sa, .int (nI (n + 2))])), (ms, aB E 128 g10)] ++ []) [0, 1] (by decide) rfl
  refine xcv (va_runV (As := [.int ((x.toUInt32 >>> ((8 : Int32).toUInt32 &&& Int32.toUInt32 31)).toInt32)]) (rest := []) ⟨hx, hb, hml, hown, hts⟩ (kX5_putByte l E h ms sc sa (n + 2) g10 ((x.toUInt32 >>> ((8 : Int32).toUInt32 &&& Int32.toUInt32 31)).toInt32) (by first | assumption | omega) H.size) (cwV 1 hts gX5_putInt_X5_putByte rfl rfl rfl (by decide +kernel) ⟨Nat.le_of_ble_eq_true rfl, Nat.le_of_ble_eq_true rfl⟩) ⟨CP.blind, (va_recv hev.1 hP.left (ci := 6) (q0 := 0) rfl rfl), (xpre hev hz hA hP hD hS hR0 hap [] rfl)⟩ rfl rfl hl.1 rfl (lv_room (Nat.le_of_ble_eq_true rfl)) dX5_putInt_11 ⟨Nat.le_of_ble_eq_true rfl, Nat.le_of_ble_eq_true rfl⟩) hP hD hS hA (fun w13 H locs h14 hP hD hS => ?_)
  obtain ⟨g15, rfl, h14⟩ := h14
  try dsimp only at h14
  try rw [show ((n + 2) + 1 : Nat) = n + 3 by omega] at hP hD
  have hP : va_P E.1 vwCl [(h, .inr (6, [.ref ms, .ref sc, .ref sa, .int (nI (n + 3))])), (ms, aB E 128 g15)] H := hP
  have hD : va_D A [(h, .inr (6, [.ref ms, .ref sc, .ref sa, .int (nI (n + 3))])), (ms, aB E 128 g15)] := hD
  refine lv_iinc (v := 0) (lv' := [(2, .int 0), (0, .ref h), (1, .int x)]) hx hb dX5_putInt_14 hl (k := 0) rfl (by decide) (by decide) rfl (fun ls hl => ?_)
  refine lv_goto (tgt := 3) hx hb dX5_putInt_17 (by decide) ?_
  refine lv_iload_n hx hb dX5_putInt_3 rfl (lv_at hl 0 rfl) ?_
  refine lv_if_lt (tgt := 20) hx hb dX5_putInt_4 (by decide) (fun c16 => absurd c16 (by decide)) (fun c16 => ?_)
  refine lv_aload_n hx hb dX5_putInt_7 rfl (lv_at hl 1 rfl) ?_
  refine lv_iload_n hx hb dX5_putInt_8 rfl (lv_at hl 2 rfl) ?_
  refine lv_iload_n hx hb dX5_putInt_9 rfl (lv_at hl 0 rfl) ?_
  refine lv_iushr (v := (x.toUInt32 >>> ((0 : Int32).toUInt32 &&& Int32.toUInt32 31)).toInt32) hx hb dX5_putInt_10 rfl ?_
  have hP := hP.sub (ws' := [(h, .inr (6, [.ref ms, .ref sc, .ref sa, .int (nI (n + 3))])), (ms, aB E 128 g15)] ++ []) [0, 1] rfl
  have hD := hD.sub (ws' := [(h, .inr (6, [.ref ms, .ref sc, .ref sa, .int (nI (n + 3))])), (ms, aB E 128 g15)] ++ []) [0, 1] (by decide) rfl
  refine xcv (va_runV (As := [.int ((x.toUInt32 >>> ((0 : Int32).toUInt32 &&& Int32.toUInt32 31)).toInt32)]) (rest := []) ⟨hx, hb, hml, hown, hts⟩ (kX5_putByte l E h ms sc sa (n + 3) g15 ((x.toUInt32 >>> ((0 : Int32).toUInt32 &&& Int32.toUInt32 31)).toInt32) (by first | assumption | omega) H.size) (cwV 1 hts gX5_putInt_X5_putByte rfl rfl rfl (by decide +kernel) ⟨Nat.le_of_ble_eq_true rfl, Nat.le_of_ble_eq_true rfl⟩) ⟨CP.blind, (va_recv hev.1 hP.left (ci := 6) (q0 := 0) rfl rfl), (xpre hev hz hA hP hD hS hR0 hap [] rfl)⟩ rfl rfl hl.1 rfl (lv_room (Nat.le_of_ble_eq_true rfl)) dX5_putInt_11 ⟨Nat.le_of_ble_eq_true rfl, Nat.le_of_ble_eq_true rfl⟩) hP hD hS hA (fun w18 H locs h19 hP hD hS => ?_)
  obtain ⟨g20, rfl, h19⟩ := h19
  try dsimp only at h19
  try rw [show ((n + 3) + 1 : Nat) = n + 4 by omega] at hP hD
  have hP : va_P E.1 vwCl [(h, .inr (6, [.ref ms, .ref sc, .ref sa, .int (nI (n + 4))])), (ms, aB E 128 g20)] H := hP
  have hD : va_D A [(h, .inr (6, [.ref ms, .ref sc, .ref sa, .int (nI (n + 4))])), (ms, aB E 128 g20)] := hD
  refine lv_iinc (v := (-8)) (lv' := [(2, .int (-8)), (0, .ref h), (1, .int x)]) hx hb dX5_putInt_14 hl (k := 0) rfl (by decide) (by decide) rfl (fun ls hl => ?_)
  refine lv_goto (tgt := 3) hx hb dX5_putInt_17 (by decide) ?_
  refine lv_iload_n hx hb dX5_putInt_3 rfl (lv_at hl 0 rfl) ?_
  refine lv_if_lt (tgt := 20) hx hb dX5_putInt_4 (by decide) (fun c21 => ?_) (fun c21 => absurd (by decide) c21)
  refine xrv hx hb hr hlocks hP hD hS ⟨g20, rfl, ?_⟩ dX5_putInt_20
  subst_vars
  simp only [ap, bI, jus, Nat.add_assoc, Nat.reduceAdd]

abbrev pX5_putLong (E : xE) (h : Nat) (ms : Nat) (sc : Nat) (sa : Nat) (n : Nat) (f : Nat → Int32) (x : Int64) (w : va_W) : Prop := ∃ (g : Nat → Int32), w = [(h, .inr (6, [.ref ms, .ref sc, .ref sa, .int (nI (n + 8))])), (ms, aB E 128 g)] ∧ (g = ap f n (bL x))
set_option maxHeartbeats 4000000 in
set_option maxRecDepth 100000 in
theorem kX5_putLong (l : Launch) (E : xE) (h : Nat) (ms : Nat) (sc : Nat) (sa : Nat) (n : Nat) (f : Nat → Int32) (x : Int64) (hn : n + 8 ≤ 119) : KT l yX5_putLong wsX5_putLong 2 43 0 0 E [(h, .inr (6, [.ref ms, .ref sc, .ref sa, .int (nI n)])), (ms, aB E 128 f)] [] [.ref h, .long x] (QV E (pX5_putLong E h ms sc sa n f x)) := by
  refine KT.start (cc := cX5_putLong) (maxL := 3) (ret := none) (by decide) rfl (Nat.le_of_ble_eq_true rfl) ?_
  intro p e s m below meth c A H hx hb hr hlocks hml hts hown hin hP hR0 hD hap hev hz hA hS ls hl
  have hl : lv_has ls 3 [(0, .ref h), (1, .long x)] := hl
  refine lv_aload_n hx hb dX5_putLong_0 rfl (lv_at hl 0 rfl) ?_
  refine lv_lload_n hx hb dX5_putLong_1 rfl (lv_at hl 1 rfl) ?_
  refine lv_bipush (v := 32) hx hb dX5_putLong_2 (by decide) ?_
  refine lv_lushr (v := (x.toUInt64 >>> ((32 : Int32).toInt64.toUInt64 &&& Int64.toUInt64 63)).toInt64) hx hb dX5_putLong_4 rfl ?_
  refine lv_l2i (v := ((x.toUInt64 >>> ((32 : Int32).toInt64.toUInt64 &&& Int64.toUInt64 63)).toInt64).toInt32) hx hb dX5_putLong_5 rfl ?_
  have hP := hP.sub (ws' := [(h, .inr (6, [.ref ms, .ref sc, .ref sa, .int (nI n)])), (ms, aB E 128 f)] ++ []) [0, 1] rfl
  have hD := hD.sub (ws' := [(h, .inr (6, [.ref ms, .ref sc, .ref sa, .int (nI n)])), (ms, aB E 128 f)] ++ []) [0, 1] (by decide) rfl
  refine xcv (va_runV (As := [.int (((x.toUInt64 >>> ((32 : Int32).toInt64.toUInt64 &&& Int64.toUInt64 63)).toInt64).toInt32)]) (rest := []) ⟨hx, hb, hml, hown, hts⟩ (kX5_putInt l E h ms sc sa n f (((x.toUInt64 >>> ((32 : Int32).toInt64.toUInt64 &&& Int64.toUInt64 63)).toInt64).toInt32) (by first | assumption | omega) H.size) (cwV 1 hts gX5_putLong_X5_putInt rfl rfl rfl (by decide +kernel) ⟨Nat.le_of_ble_eq_true rfl, Nat.le_of_ble_eq_true rfl⟩) ⟨CP.blind, (va_recv hev.1 hP.left (ci := 6) (q0 := 0) rfl rfl), (xpre hev hz hA hP hD hS hR0 hap [] rfl)⟩ rfl rfl hl.1 rfl (lv_room (Nat.le_of_ble_eq_true rfl)) dX5_putLong_6 ⟨Nat.le_of_ble_eq_true rfl, Nat.le_of_ble_eq_true rfl⟩) hP hD hS hA (fun w2 H locs h3 hP hD hS => ?_)
  obtain ⟨g4, rfl, h3⟩ := h3
  try dsimp only at h3
  have hP : va_P E.1 vwCl [(h, .inr (6, [.ref ms, .ref sc, .ref sa, .int (nI (n + 4))])), (ms, aB E 128 g4)] H := hP
  have hD : va_D A [(h, .inr (6, [.ref ms, .ref sc, .ref sa, .int (nI (n + 4))])), (ms, aB E 128 g4)] := hD
  refine lv_aload_n hx hb dX5_putLong_9 rfl (lv_at hl 0 rfl) ?_
  refine lv_lload_n hx hb dX5_putLong_10 rfl (lv_at hl 1 rfl) ?_
  refine lv_l2i (v := x.toInt32) hx hb dX5_putLong_11 rfl ?_
  have hP := hP.sub (ws' := [(h, .inr (6, [.ref ms, .ref sc, .ref sa, .int (nI (n + 4))])), (ms, aB E 128 g4)] ++ []) [0, 1] rfl
  have hD := hD.sub (ws' := [(h, .inr (6, [.ref ms, .ref sc, .ref sa, .int (nI (n + 4))])), (ms, aB E 128 g4)] ++ []) [0, 1] (by decide) rfl
  refine xcv (va_runV (As := [.int x.toInt32]) (rest := []) ⟨hx, hb, hml, hown, hts⟩ (kX5_putInt l E h ms sc sa (n + 4) g4 x.toInt32 (by first | assumption | omega) H.size) (cwV 1 hts gX5_putLong_X5_putInt rfl rfl rfl (by decide +kernel) ⟨Nat.le_of_ble_eq_true rfl, Nat.le_of_ble_eq_true rfl⟩) ⟨CP.blind, (va_recv hev.1 hP.left (ci := 6) (q0 := 0) rfl rfl), (xpre hev hz hA hP hD hS hR0 hap [] rfl)⟩ rfl rfl hl.1 rfl (lv_room (Nat.le_of_ble_eq_true rfl)) dX5_putLong_12 ⟨Nat.le_of_ble_eq_true rfl, Nat.le_of_ble_eq_true rfl⟩) hP hD hS hA (fun w6 H locs h7 hP hD hS => ?_)
  obtain ⟨g8, rfl, h7⟩ := h7
  try dsimp only at h7
  try rw [show ((n + 4) + 4 : Nat) = n + 8 by omega] at hP hD
  have hP : va_P E.1 vwCl [(h, .inr (6, [.ref ms, .ref sc, .ref sa, .int (nI (n + 8))])), (ms, aB E 128 g8)] H := hP
  have hD : va_D A [(h, .inr (6, [.ref ms, .ref sc, .ref sa, .int (nI (n + 8))])), (ms, aB E 128 g8)] := hD
  refine xrv hx hb hr hlocks hP hD hS ⟨g8, rfl, ?_⟩ dX5_putLong_15
  subst_vars
  exact (ap_app f n (bI (hiL x)) (bI x.toInt32)).symm

abbrev pX5_firstEightBytes (E : xE) (h : Nat) (ms : Nat) (sc : Nat) (sa : Nat) (n : Nat) (fa : Nat → Int32) (r : Int64) (w : va_W) : Prop := w = [] ∧ r = eight fa ∧ (True)
set_option maxHeartbeats 4000000 in
set_option maxRecDepth 100000 in
theorem kX5_firstEightBytes (l : Launch) (E : xE) (h : Nat) (ms : Nat) (sc : Nat) (sa : Nat) (n : Nat) (fa : Nat → Int32)  : KT l yX5_firstEightBytes wsX5_firstEightBytes 0 0 0 0 E [] [(h, .inr (6, [.ref ms, .ref sc, .ref sa, .int (nI n)])), (sa, aI E 8 fa)] [.ref h] (QL E (pX5_firstEightBytes E h ms sc sa n fa)) := by
  refine KT.start (cc := cX5_firstEightBytes) (maxL := 1) (ret := (some .long)) (by decide) rfl (Nat.le_of_ble_eq_true rfl) ?_
  intro p e s m below meth c A H hx hb hr hlocks hml hts hown hin hP hR0 hD hap hev hz hA hS ls hl
  have hl : lv_has ls 1 [(0, .ref h)] := hl
  have hiX5 : ∀ w ∈ wsX50, w ∈ wsX5_firstEightBytes := by decide +kernel
  have hf19 := hts (.fieldLink RX5 19 "SignQuorum$Sha256" "state" "[I") (by decide +kernel)
  have hk51 := hts (.constantLong RX5 51 (4294967295)) (by decide +kernel)
  refine lv_aload_n hx hb dX5_firstEightBytes_0 rfl (lv_at hl 0 rfl) ?_
  refine va_get (D := E.1) (ci := 6) (v := .ref sa) (C := RX5) (T := TX5) (N := 4) hx hb hts hiX5 hown hev.1 (xro hR0 hap hS) 0 rfl rfl 2 (by decide) hf19 (fun _ h9 => h9) rfl dX5_firstEightBytes_1 ?_
  refine lv_iconst (v := 0) hx hb dX5_firstEightBytes_4 (by decide) ?_
  refine xiald (k := 0) hx hb hev.1 (xro hR0 hap hS) 1 1 rfl rfl (by omega) (by decide) dX5_firstEightBytes_5 ?_
  refine lv_i2l (v := (fa 0).toInt64) hx hb dX5_firstEightBytes_6 rfl ?_
  refine lv_bipush (v := 32) hx hb dX5_firstEightBytes_7 (by decide) ?_
  refine lv_lshl (v := ((fa 0).toInt64) <<< ((32 : Int32).toInt64 &&& 63)) hx hb dX5_firstEightBytes_9 rfl ?_
  refine lv_aload_n hx hb dX5_firstEightBytes_10 rfl (lv_at hl 0 rfl) ?_
  refine va_get (D := E.1) (ci := 6) (v := .ref sa) (C := RX5) (T := TX5) (N := 4) hx hb hts hiX5 hown hev.1 (xro hR0 hap hS) 0 rfl rfl 2 (by decide) hf19 (fun _ h9 => h9) rfl dX5_firstEightBytes_11 ?_
  refine lv_iconst (v := 1) hx hb dX5_firstEightBytes_14 (by decide) ?_
  refine xiald (k := 1) hx hb hev.1 (xro hR0 hap hS) 1 1 rfl rfl (by omega) (by decide) dX5_firstEightBytes_15 ?_
  refine lv_i2l (v := (fa 1).toInt64) hx hb dX5_firstEightBytes_16 rfl ?_
  refine lv_ldc2 hx hb hown hk51 dX5_firstEightBytes_17 ?_
  refine lv_land hx hb dX5_firstEightBytes_20 ?_
  refine lv_lor hx hb dX5_firstEightBytes_21 ?_
  refine xrl hx hb hr hlocks hP hD hS ⟨rfl, ?_, ?_⟩ dX5_firstEightBytes_22
  · first | rfl | (subst_vars; rfl)
  · trivial
