abbrev pX8_turned (E : xE) (a : Int32) (b : Int32) (r : Int32) (w : va_W) : Prop := w = [] ∧ r = turn a b ∧ (True)
set_option maxHeartbeats 4000000 in
set_option maxRecDepth 100000 in
theorem kX8_turned (l : Launch) (E : xE) (a : Int32) (b : Int32)  : KT l yX8_turned wsX8_turned 0 0 0 0 E [] [] [.int a, .int b] (QI E (pX8_turned E a b)) := by
  refine KT.start (cc := cX8_turned) (maxL := 2) (ret := (some .int)) (by decide) rfl (Nat.le_of_ble_eq_true rfl) ?_
  intro p e s m below meth c A H hx hb hr hlocks hml hts hown hin hP hR0 hD hap hev hz hA hS ls hl
  have hl : lv_has ls 2 [(0, .int a), (1, .int b)] := hl
  refine lv_iload_n hx hb dX8_turned_0 rfl (lv_at hl 0 rfl) ?_
  refine lv_iload_n hx hb dX8_turned_1 rfl (lv_at hl 1 rfl) ?_
  refine lv_iushr (v := (a.toUInt32 >>> (b.toUInt32 &&& Int32.toUInt32 31)).toInt32) hx hb dX8_turned_2 rfl ?_
  refine lv_iload_n hx hb dX8_turned_3 rfl (lv_at hl 0 rfl) ?_
  refine lv_bipush (v := 32) hx hb dX8_turned_4 (by decide) ?_
  refine lv_iload_n hx hb dX8_turned_6 rfl (lv_at hl 1 rfl) ?_
  refine lv_isub hx hb dX8_turned_7 ?_
  refine lv_ishl hx hb dX8_turned_8 ?_
  refine lv_ior hx hb dX8_turned_9 ?_
  refine lv_topi (fun v1 ev1 => ?_)
  refine xri hx hb hr hlocks hP hD hS ⟨rfl, ?_, ?_⟩ dX8_turned_10
  · rfl
  · trivial

abbrev pX8_put1 (E : xE) (m : Nat) (ad : Nat → Nat) (th : Int32) (kn : Nat) (rn : Nat) (mn : Nat) (dp : Nat) (a29 : Nat → Int32) (v : Int64) (w : va_W) : Prop := ∃ (g : Nat → Int32), w = [(m, .inr (9, [.int th, .int (nI kn), .int (nI rn), .ref (ad 3), .ref (ad 4), .ref (ad 5), .ref (ad 6), .ref (ad 7), .ref (ad 8), .ref (ad 9), .ref (ad 10), .ref (ad 11), .ref (ad 12), .ref (ad 13), .ref (ad 14), .ref (ad 15), .ref (ad 16), .ref (ad 17), .ref (ad 18), .ref (ad 19), .ref (ad 20), .ref (ad 21), .ref (ad 22), .ref (ad 23), .ref (ad 24), .ref (ad 25), .ref (ad 26), .ref (ad 27), .int (nI (mn + 1)), .ref (ad 29), .ref (ad 30), .ref (ad 31), .ref (ad 32), .ref (ad 33), .ref (ad 34), .ref (ad 35), .ref (ad 36), .ref (ad 37), .int (nI dp), .ref (ad 39), .ref (ad 40)])), (ad 29, aI E 256 g)] ∧ (g = ap a29 mn (uB1 v))
set_option maxHeartbeats 4000000 in
set_option maxRecDepth 100000 in
theorem kX8_put1 (l : Launch) (E : xE) (m : Nat) (ad : Nat → Nat) (th : Int32) (kn : Nat) (rn : Nat) (mn : Nat) (dp : Nat) (a29 : Nat → Int32) (v : Int64) (hmn : mn + 1 ≤ 256) : KT l yX8_put wsX8_put 0 0 0 0 E [(m, .inr (9, [.int th, .int (nI kn), .int (nI rn), .ref (ad 3), .ref (ad 4), .ref (ad 5), .ref (ad 6), .ref (ad 7), .ref (ad 8), .ref (ad 9), .ref (ad 10), .ref (ad 11), .ref (ad 12), .ref (ad 13), .ref (ad 14), .ref (ad 15), .ref (ad 16), .ref (ad 17), .ref (ad 18), .ref (ad 19), .ref (ad 20), .ref (ad 21), .ref (ad 22), .ref (ad 23), .ref (ad 24), .ref (ad 25), .ref (ad 26), .ref (ad 27), .int (nI mn), .ref (ad 29), .ref (ad 30), .ref (ad 31), .ref (ad 32), .ref (ad 33), .ref (ad 34), .ref (ad 35), .ref (ad 36), .ref (ad 37), .int (nI dp), .ref (ad 39), .ref (ad 40)])), (ad 29, aI E 256 a29)] [] [.ref m, .long v, .int 1] (QV E (pX8_put1 E m ad th kn rn mn dp a29 v)) := by
  refine KT.start (cc := cX8_put) (maxL := 5) (ret := none) (by decide) rfl (Nat.le_of_ble_eq_true rfl) ?_
  intro p e s m below meth c A H hx hb hr hlocks hml hts hown hin hP hR0 hD hap hev hz hA hS ls hl
  have hl : lv_has ls 5 [(0, .ref m), (1, .long v), (3, .int 1)] := hl
  have hiX8 : ∀ w ∈ wsX80, w ∈ wsX8_put := by decide +kernel
  have hf206 := hts (.fieldLink RX8 206 "SignQuorumModel" "many" "I") (by decide +kernel)
  have hf87 := hts (.fieldLink RX8 87 "SignQuorumModel" "bytes" "[I") (by decide +kernel)
  have hk209 := hts (.constantLong RX8 209 (255)) (by decide +kernel)
  refine lv_bipush (v := 8) hx hb dX8_put_0 (by decide) ?_
  refine lv_iload_n hx hb dX8_put_2 rfl (lv_at hl 2 rfl) ?_
  refine lv_imul hx hb dX8_put_3 ?_
  refine xtop (y := 8) (by decide) ?_
  refine lv_bipush (v := 8) hx hb dX8_put_4 (by decide) ?_
  refine lv_isub hx hb dX8_put_6 ?_
  refine xtop (y := 0) (by decide) ?_
  refine lv_istore (lv' := [(4, .int 0), (0, .ref m), (1, .long v), (3, .int 1)]) hx hb dX8_put_7 hl (by decide) rfl (fun ls hl => ?_)
  refine lv_iload hx hb dX8_put_9 (lv_at hl 0 rfl) ?_
  refine lv_if_lt (tgt := 48) hx hb dX8_put_11 (by decide) (fun c1 => absurd c1 (by decide)) (fun c1 => ?_)
  refine lv_aload_n hx hb dX8_put_14 rfl (lv_at hl 1 rfl) ?_
  refine va_get (D := E.1) (ci := 9) (v := .ref (ad 29)) (C := RX8) (T := TX8) (N := 41) hx hb hts hiX8 hown hev.1 hP 0 rfl rfl 29 (by decide) hf87 (fun _ h9 => h9) rfl dX8_put_15 ?_
  refine lv_aload_n hx hb dX8_put_18 rfl (lv_at hl 1 rfl) ?_
  refine va_get (D := E.1) (ci := 9) (v := .int (nI mn)) (C := RX8) (T := TX8) (N := 41) hx hb hts hiX8 hown hev.1 hP 0 rfl rfl 28 (by decide) hf206 (fun _ h9 => h9) rfl dX8_put_19 ?_
  refine lv_lload_n hx hb dX8_put_22 rfl (lv_at hl 2 rfl) ?_
  refine lv_iload hx hb dX8_put_23 (lv_at hl 0 rfl) ?_
  refine lv_lshr (v := v >>> ((0 : Int32).toInt64 &&& 63)) hx hb dX8_put_25 rfl ?_
  refine lv_ldc2 hx hb hown hk209 dX8_put_26 ?_
  refine lv_land hx hb dX8_put_29 ?_
  refine lv_l2i (v := ((v >>> ((0 : Int32).toInt64 &&& 63)) &&& 255).toInt32) hx hb dX8_put_30 rfl ?_
  refine xiast (k := mn) hx hb hev.1 hP hD hS 1 1 rfl rfl (by omega) (by decide) dX8_put_31 (fun H locs hP hD hS => ?_)
  obtain ⟨f2, ef2⟩ : ∃ y9_ : Nat → Int32, y9_ = upd a29 mn (((v >>> ((0 : Int32).toInt64 &&& 63)) &&& 255).toInt32) := ⟨_, rfl⟩
  rw [← ef2] at hP hD
  have hP : va_P E.1 vwCl [(m, .inr (9, [.int th, .int (nI kn), .int (nI rn), .ref (ad 3), .ref (ad 4), .ref (ad 5), .ref (ad 6), .ref (ad 7), .ref (ad 8), .ref (ad 9), .ref (ad 10), .ref (ad 11), .ref (ad 12), .ref (ad 13), .ref (ad 14), .ref (ad 15), .ref (ad 16), .ref (ad 17), .ref (ad 18), .ref (ad 19), .ref (ad 20), .ref (ad 21), .ref (ad 22), .ref (ad 23), .ref (ad 24), .ref (ad 25), .ref (ad 26), .ref (ad 27), .int (nI mn), .ref (ad 29), .ref (ad 30), .ref (ad 31), .ref (ad 32), .ref (ad 33), .ref (ad 34), .ref (ad 35), .ref (ad 36), .ref (ad 37), .int (nI dp), .ref (ad 39), .ref (ad 40)])), (ad 29, aI E 256 f2)] H := hP
  have hD : va_D A [(m, .inr (9, [.int th, .int (nI kn), .int (nI rn), .ref (ad 3), .ref (ad 4), .ref (ad 5), .ref (ad 6), .ref (ad 7), .ref (ad 8), .ref (ad 9), .ref (ad 10), .ref (ad 11), .ref (ad 12), .ref (ad 13), .ref (ad 14), .ref (ad 15), .ref (ad 16), .ref (ad 17), .ref (ad 18), .ref (ad 19), .ref (ad 20), .ref (ad 21), .ref (ad 22), .ref (ad 23), .ref (ad 24), .ref (ad 25), .ref (ad 26), .ref (ad 27), .int (nI mn), .ref (ad 29), .ref (ad 30), .ref (ad 31), .ref (ad 32), .ref (ad 33), .ref (ad 34), .ref (ad 35), .ref (ad 36), .ref (ad 37), .int (nI dp), .ref (ad 39), .ref (ad 40)])), (ad 29, aI E 256 f2)] := hD
  refine lv_aload_n hx hb dX8_put_32 rfl (lv_at hl 1 rfl) ?_
  refine lv_dup hx hb dX8_put_33 rfl ?_
  refine va_get (D := E.1) (ci := 9) (v := .int (nI mn)) (C := RX8) (T := TX8) (N := 41) hx hb hts hiX8 hown hev.1 hP 0 rfl rfl 28 (by decide) hf206 (fun _ h9 => h9) rfl dX8_put_34 ?_
  refine lv_iconst (v := 1) hx hb dX8_put_37 (by decide) ?_
  refine lv_iadd hx hb dX8_put_38 ?_
  refine xtop (y := nI (mn + 1)) ((nI_add mn 1).trans (congrArg nI (by omega))) ?_
  refine va_put (D := E.1) (ci := 9) (v := .int (nI (mn + 1))) (ty := tyX8 28) (C := RX8) (T := TX8) (N := 41) hx hb hts hiX8 tyX8 tyX8_ok nmX8 hown hev.1 hP hD hS 0 rfl rfl 28 (by decide) hf206 (fun _ h9 => h9) rfl (tyX8_ok 28 (by decide)) rfl rfl (Nat.le_of_ble_eq_true rfl) dX8_put_39 (fun H locs hP hD hS => ?_)
  have hP : va_P E.1 vwCl [(m, .inr (9, [.int th, .int (nI kn), .int (nI rn), .ref (ad 3), .ref (ad 4), .ref (ad 5), .ref (ad 6), .ref (ad 7), .ref (ad 8), .ref (ad 9), .ref (ad 10), .ref (ad 11), .ref (ad 12), .ref (ad 13), .ref (ad 14), .ref (ad 15), .ref (ad 16), .ref (ad 17), .ref (ad 18), .ref (ad 19), .ref (ad 20), .ref (ad 21), .ref (ad 22), .ref (ad 23), .ref (ad 24), .ref (ad 25), .ref (ad 26), .ref (ad 27), .int (nI (mn + 1)), .ref (ad 29), .ref (ad 30), .ref (ad 31), .ref (ad 32), .ref (ad 33), .ref (ad 34), .ref (ad 35), .ref (ad 36), .ref (ad 37), .int (nI dp), .ref (ad 39), .ref (ad 40)])), (ad 29, aI E 256 f2)] H := hP
  have hD : va_D A [(m, .inr (9, [.int th, .int (nI kn), .int (nI rn), .ref (ad 3), .ref (ad 4), .ref (ad 5), .ref (ad 6), .ref (ad 7), .ref (ad 8), .ref (ad 9), .ref (ad 10), .ref (ad 11), .ref (ad 12), .ref (ad 13), .ref (ad 14), .ref (ad 15), .ref (ad 16), .ref (ad 17), .ref (ad 18), .ref (ad 19), .ref (ad 20), .ref (ad 21), .ref (ad 22), .ref (ad 23), .ref (ad 24), .ref (ad 25), .ref (ad 26), .ref (ad 27), .int (nI (mn + 1)), .ref (ad 29), .ref (ad 30), .ref (ad 31), .ref (ad 32), .ref (ad 33), .ref (ad 34), .ref (ad 35), .ref (ad 36), .ref (ad 37), .int (nI dp), .ref (ad 39), .ref (ad 40)])), (ad 29, aI E 256 f2)] := hD
  refine lv_iinc (v := (-8)) (lv' := [(4, .int (-8)), (0, .ref m), (1, .long v), (3, .int 1)]) hx hb dX8_put_42 hl (k := 0) rfl (by decide) (by decide) rfl (fun ls hl => ?_)
  refine lv_goto (tgt := 9) hx hb dX8_put_45 (by decide) ?_
  refine lv_iload hx hb dX8_put_9 (lv_at hl 0 rfl) ?_
  refine lv_if_lt (tgt := 48) hx hb dX8_put_11 (by decide) (fun c3 => ?_) (fun c3 => absurd (by decide) c3)
  refine xrv hx hb hr hlocks hP hD hS ⟨f2, rfl, ?_⟩ dX8_put_48
  subst_vars
  simp only [ap, uB1, ub, Nat.add_assoc, Nat.reduceAdd]

abbrev pX8_put4 (E : xE) (m : Nat) (ad : Nat → Nat) (th : Int32) (kn : Nat) (rn : Nat) (mn : Nat) (dp : Nat) (a29 : Nat → Int32) (v : Int64) (w : va_W) : Prop := ∃ (g : Nat → Int32), w = [(m, .inr (9, [.int th, .int (nI kn), .int (nI rn), .ref (ad 3), .ref (ad 4), .ref (ad 5), .ref (ad 6), .ref (ad 7), .ref (ad 8), .ref (ad 9), .ref (ad 10), .ref (ad 11), .ref (ad 12), .ref (ad 13), .ref (ad 14), .ref (ad 15), .ref (ad 16), .ref (ad 17), .ref (ad 18), .ref (ad 19), .ref (ad 20), .ref (ad 21), .ref (ad 22), .ref (ad 23), .ref (ad 24), .ref (ad 25), .ref (ad 26), .ref (ad 27), .int (nI (mn + 4)), .ref (ad 29), .ref (ad 30), .ref (ad 31), .ref (ad 32), .ref (ad 33), .ref (ad 34), .ref (ad 35), .ref (ad 36), .ref (ad 37), .int (nI dp), .ref (ad 39), .ref (ad 40)])), (ad 29, aI E 256 g)] ∧ (g = ap a29 mn (uB4 v))
set_option maxHeartbeats 4000000 in
set_option maxRecDepth 100000 in
theorem kX8_put4 (l : Launch) (E : xE) (m : Nat) (ad : Nat → Nat) (th : Int32) (kn : Nat) (rn : Nat) (mn : Nat) (dp : Nat) (a29 : Nat → Int32) (v : Int64) (hmn : mn + 4 ≤ 256) : KT l yX8_put wsX8_put 0 0 0 0 E [(m, .inr (9, [.int th, .int (nI kn), .int (nI rn), .ref (ad 3), .ref (ad 4), .ref (ad 5), .ref (ad 6), .ref (ad 7), .ref (ad 8), .ref (ad 9), .ref (ad 10), .ref (ad 11), .ref (ad 12), .ref (ad 13), .ref (ad 14), .ref (ad 15), .ref (ad 16), .ref (ad 17), .ref (ad 18), .ref (ad 19), .ref (ad 20), .ref (ad 21), .ref (ad 22), .ref (ad 23), .ref (ad 24), .ref (ad 25), .ref (ad 26), .ref (ad 27), .int (nI mn), .ref (ad 29), .ref (ad 30), .ref (ad 31), .ref (ad 32), .ref (ad 33), .ref (ad 34), .ref (ad 35), .ref (ad 36), .ref (ad 37), .int (nI dp), .ref (ad 39), .ref (ad 40)])), (ad 29, aI E 256 a29)] [] [.ref m, .long v, .int 4] (QV E (pX8_put4 E m ad th kn rn mn dp a29 v)) := by
  refine KT.start (cc := cX8_put) (maxL := 5) (ret := none) (by decide) rfl (Nat.le_of_ble_eq_true rfl) ?_
  intro p e s m below meth c A H hx hb hr hlocks hml hts hown hin hP hR0 hD hap hev hz hA hS ls hl
  have hl : lv_has ls 5 [(0, .ref m), (1, .long v), (3, .int 4)] := hl
  have hiX8 : ∀ w ∈ wsX80, w ∈ wsX8_put := by decide +kernel
  have hf206 := hts (.fieldLink RX8 206 "SignQuorumModel" "many" "I") (by decide +kernel)
  have hf87 := hts (.fieldLink RX8 87 "SignQuorumModel" "bytes" "[I") (by decide +kernel)
  have hk209 := hts (.constantLong RX8 209 (255)) (by decide +kernel)
  refine lv_bipush (v := 8) hx hb dX8_put_0 (by decide) ?_
  refine lv_iload_n hx hb dX8_put_2 rfl (lv_at hl 2 rfl) ?_
  refine lv_imul hx hb dX8_put_3 ?_
  refine xtop (y := 32) (by decide) ?_
  refine lv_bipush (v := 8) hx hb dX8_put_4 (by decide) ?_
  refine lv_isub hx hb dX8_put_6 ?_
  refine xtop (y := 24) (by decide) ?_
  refine lv_istore (lv' := [(4, .int 24), (0, .ref m), (1, .long v), (3, .int 4)]) hx hb dX8_put_7 hl (by decide) rfl (fun ls hl => ?_)
  refine lv_iload hx hb dX8_put_9 (lv_at hl 0 rfl) ?_
  refine lv_if_lt (tgt := 48) hx hb dX8_put_11 (by decide) (fun c1 => absurd c1 (by decide)) (fun c1 => ?_)
  refine lv_aload_n hx hb dX8_put_14 rfl (lv_at hl 1 rfl) ?_
  refine va_get (D := E.1) (ci := 9) (v := .ref (ad 29)) (C := RX8) (T := TX8) (N := 41) hx hb hts hiX8 hown hev.1 hP 0 rfl rfl 29 (by decide) hf87 (fun _ h9 => h9) rfl dX8_put_15 ?_
  refine lv_aload_n hx hb dX8_put_18 rfl (lv_at hl 1 rfl) ?_
  refine va_get (D := E.1) (ci := 9) (v := .int (nI mn)) (C := RX8) (T := TX8) (N := 41) hx hb hts hiX8 hown hev.1 hP 0 rfl rfl 28 (by decide) hf206 (fun _ h9 => h9) rfl dX8_put_19 ?_
  refine lv_lload_n hx hb dX8_put_22 rfl (lv_at hl 2 rfl) ?_
  refine lv_iload hx hb dX8_put_23 (lv_at hl 0 rfl) ?_
  refine lv_lshr (v := v >>> ((24 : Int32).toInt64 &&& 63)) hx hb dX8_put_25 rfl ?_
  refine lv_ldc2 hx hb hown hk209 dX8_put_26 ?_
  refine lv_land hx hb dX8_put_29 ?_
  refine lv_l2i (v := ((v >>> ((24 : Int32).toInt64 &&& 63)) &&& 255).toInt32) hx hb dX8_put_30 rfl ?_
  refine xiast (k := mn) hx hb hev.1 hP hD hS 1 1 rfl rfl (by omega) (by decide) dX8_put_31 (fun H locs hP hD hS => ?_)
  obtain ⟨f2, ef2⟩ : ∃ y9_ : Nat → Int32, y9_ = upd a29 mn (((v >>> ((24 : Int32).toInt64 &&& 63)) &&& 255).toInt32) := ⟨_, rfl⟩
  rw [← ef2] at hP hD
  have hP : va_P E.1 vwCl [(m, .inr (9, [.int th, .int (nI kn), .int (nI rn), .ref (ad 3), .ref (ad 4), .ref (ad 5), .ref (ad 6), .ref (ad 7), .ref (ad 8), .ref (ad 9), .ref (ad 10), .ref (ad 11), .ref (ad 12), .ref (ad 13), .ref (ad 14), .ref (ad 15), .ref (ad 16), .ref (ad 17), .ref (ad 18), .ref (ad 19), .ref (ad 20), .ref (ad 21), .ref (ad 22), .ref (ad 23), .ref (ad 24), .ref (ad 25), .ref (ad 26), .ref (ad 27), .int (nI mn), .ref (ad 29), .ref (ad 30), .ref (ad 31), .ref (ad 32), .ref (ad 33), .ref (ad 34), .ref (ad 35), .ref (ad 36), .ref (ad 37), .int (nI dp), .ref (ad 39), .ref (ad 40)])), (ad 29, aI E 256 f2)] H := hP
  have hD : va_D A [(m, .inr (9, [.int th, .int (nI kn), .int (nI rn), .ref (ad 3), .ref (ad 4), .ref (ad 5), .ref (ad 6), .ref (ad 7), .ref (ad 8), .ref (ad 9), .ref (ad 10), .ref (ad 11), .ref (ad 12), .ref (ad 13), .ref (ad 14), .ref (ad 15), .ref (ad 16), .ref (ad 17), .ref (ad 18), .ref (ad 19), .ref (ad 20), .ref (ad 21), .ref (ad 22), .ref (ad 23), .ref (ad 24), .ref (ad 25), .ref (ad 26), .ref (ad 27), .int (nI mn), .ref (ad 29), .ref (ad 30), .ref (ad 31), .ref (ad 32), .ref (ad 33), .ref (ad 34), .ref (ad 35), .ref (ad 36), .ref (ad 37), .int (nI dp), .ref (ad 39), .ref (ad 40)])), (ad 29, aI E 256 f2)] := hD
  refine lv_aload_n hx hb dX8_put_32 rfl (lv_at hl 1 rfl) ?_
  refine lv_dup hx hb dX8_put_33 rfl ?_
  refine va_get (D := E.1) (ci := 9) (v := .int (nI mn)) (C := RX8) (T := TX8) (N := 41) hx hb hts hiX8 hown hev.1 hP 0 rfl rfl 28 (by decide) hf206 (fun _ h9 => h9) rfl dX8_put_34 ?_
  refine lv_iconst (v := 1) hx hb dX8_put_37 (by decide) ?_
  refine lv_iadd hx hb dX8_put_38 ?_
  refine xtop (y := nI (mn + 1)) ((nI_add mn 1).trans (congrArg nI (by omega))) ?_
  refine va_put (D := E.1) (ci := 9) (v := .int (nI (mn + 1))) (ty := tyX8 28) (C := RX8) (T := TX8) (N := 41) hx hb hts hiX8 tyX8 tyX8_ok nmX8 hown hev.1 hP hD hS 0 rfl rfl 28 (by decide) hf206 (fun _ h9 => h9) rfl (tyX8_ok 28 (by decide)) rfl rfl (Nat.le_of_ble_eq_true rfl) dX8_put_39 (fun H locs hP hD hS => ?_)
  have hP : va_P E.1 vwCl [(m, .inr (9, [.int th, .int (nI kn), .int (nI rn), .ref (ad 3), .ref (ad 4), .ref (ad 5), .ref (ad 6), .ref (ad 7), .ref (ad 8), .ref (ad 9), .ref (ad 10), .ref (ad 11), .ref (ad 12), .ref (ad 13), .ref (ad 14), .ref (ad 15), .ref (ad 16), .ref (ad 17), .ref (ad 18), .ref (ad 19), .ref (ad 20), .ref (ad 21), .ref (ad 22), .ref (ad 23), .ref (ad 24), .ref (ad 25), .ref (ad 26), .ref (ad 27), .int (nI (mn + 1)), .ref (ad 29), .ref (ad 30), .ref (ad 31), .ref (ad 32), .ref (ad 33), .ref (ad 34), .ref (ad 35), .ref (ad 36), .ref (ad 37), .int (nI dp), .ref (ad 39), .ref (ad 40)])), (ad 29, aI E 256 f2)] H := hP
  have hD : va_D A [(m, .inr (9, [.int th, .int (nI kn), .int (nI rn), .ref (ad 3), .ref (ad 4), .ref (ad 5), .ref (ad 6), .ref (ad 7), .ref (ad 8), .ref (ad 9), .ref (ad 10), .ref (ad 11), .ref (ad 12), .ref (ad 13), .ref (ad 14), .ref (ad 15), .ref (ad 16), .ref (ad 17), .ref (ad 18), .ref (ad 19), .ref (ad 20), .ref (ad 21), .ref (ad 22), .ref (ad 23), .ref (ad 24), .ref (ad 25), .ref (ad 26), .ref (ad 27), .int (nI (mn + 1)), .ref (ad 29), .ref (ad 30), .ref (ad 31), .ref (ad 32), .ref (ad 33), .ref (ad 34), .ref (ad 35), .ref (ad 36), .ref (ad 37), .int (nI dp), .ref (ad 39), .ref (ad 40)])), (ad 29, aI E 256 f2)] := hD
  refine lv_iinc (v := 16) (lv' := [(4, .int 16), (0, .ref m), (1, .long v), (3, .int 4)]) hx hb dX8_put_42 hl (k := 0) rfl (by decide) (by decide) rfl (fun ls hl => ?_)
  refine lv_goto (tgt := 9) hx hb dX8_put_45 (by decide) ?_
  refine lv_iload hx hb dX8_put_9 (lv_at hl 0 rfl) ?_
  refine lv_if_lt (tgt := 48) hx hb dX8_put_11 (by decide) (fun c3 => absurd c3 (by decide)) (fun c3 => ?_)
  refine lv_aload_n hx hb dX8_put_14 rfl (lv_at hl 1 rfl) ?_
  refine va_get (D := E.1) (ci := 9) (v := .ref (ad 29)) (C := RX8) (T := TX8) (N := 41) hx hb hts hiX8 hown hev.1 hP 0 rfl rfl 29 (by decide) hf87 (fun _ h9 => h9) rfl dX8_put_15 ?_
  refine lv_aload_n hx hb dX8_put_18 rfl (lv_at hl 1 rfl) ?_
  refine va_get (D := E.1) (ci := 9) (v := .int (nI (mn + 1))) (C := RX8) (T := TX8) (N := 41) hx hb hts hiX8 hown hev.1 hP 0 rfl rfl 28 (by decide) hf206 (fun _ h9 => h9) rfl dX8_put_19 ?_
  refine lv_lload_n hx hb dX8_put_22 rfl (lv_at hl 2 rfl) ?_
  refine lv_iload hx hb dX8_put_23 (lv_at hl 0 rfl) ?_
  refine lv_lshr (v := v >>> ((16 : Int32).toInt64 &&& 63)) hx hb dX8_put_25 rfl ?_
  refine lv_ldc2 hx hb hown hk209 dX8_put_26 ?_
  refine lv_land hx hb dX8_put_29 ?_
  refine lv_l2i (v := ((v >>> ((16 : Int32).toInt64 &&& 63)) &&& 255).toInt32) hx hb dX8_put_30 rfl ?_
  refine xiast (k := mn + 1) hx hb hev.1 hP hD hS 1 1 rfl rfl (by omega) (by decide) dX8_put_31 (fun H locs hP hD hS => ?_)
  obtain ⟨f4, ef4⟩ : ∃ y9_ : Nat → Int32, y9_ = upd f2 (mn + 1) (((v >>> ((16 : Int32).toInt64 &&& 63)) &&& 255).toInt32) := ⟨_, rfl⟩
  rw [← ef4] at hP hD
  have hP : va_P E.1 vwCl [(m, .inr (9, [.int th, .int (nI kn), .int (nI rn), .ref (ad 3), .ref (ad 4), .ref (ad 5), .ref (ad 6), .ref (ad 7), .ref (ad 8), .ref (ad 9), .ref (ad 10), .ref (ad 11), .ref (ad 12), .ref (ad 13), .ref (ad 14), .ref (ad 15), .ref (ad 16), .ref (ad 17), .ref (ad 18), .ref (ad 19), .ref (ad 20), .ref (ad 21), .ref (ad 22), .ref (ad 23), .ref (ad 24), .ref (ad 25), .ref (ad 26), .ref (ad 27), .int (nI (mn + 1)), .ref (ad 29), .ref (ad 30), .ref (ad 31), .ref (ad 32), .ref (ad 33), .ref (ad 34), .ref (ad 35), .ref (ad 36), .ref (ad 37), .int (nI dp), .ref (ad 39), .ref (ad 40)])), (ad 29, aI E 256 f4)] H := hP
  have hD : va_D A [(m, .inr (9, [.int th, .int (nI kn), .int (nI rn), .ref (ad 3), .ref (ad 4), .ref (ad 5), .ref (ad 6), .ref (ad 7), .ref (ad 8), .ref (ad 9), .ref (ad 10), .ref (ad 11), .ref (ad 12), .ref (ad 13), .ref (ad 14), .ref (ad 15), .ref (ad 16), .ref (ad 17), .ref (ad 18), .ref (ad 19), .ref (ad 20), .ref (ad 21), .ref (ad 22), .ref (ad 23), .ref (ad 24), .ref (ad 25), .ref (ad 26), .ref (ad 27), .int (nI (mn + 1)), .ref (ad 29), .ref (ad 30), .ref (ad 31), .ref (ad 32), .ref (ad 33), .ref (ad 34), .ref (ad 35), .ref (ad 36), .ref (ad 37), .int (nI dp), .ref (ad 39), .ref (ad 40)])), (ad 29, aI E 256 f4)] := hD
  refine lv_aload_n hx hb dX8_put_32 rfl (lv_at hl 1 rfl) ?_
  refine lv_dup hx hb dX8_put_33 rfl ?_
  refine va_get (D := E.1) (ci := 9) (v := .int (nI (mn + 1))) (C := RX8) (T := TX8) (N := 41) hx hb hts hiX8 hown hev.1 hP 0 rfl rfl 28 (by decide) hf206 (fun _ h9 => h9) rfl dX8_put_34 ?_
  refine lv_iconst (v := 1) hx hb dX8_put_37 (by decide) ?_
  refine lv_iadd hx hb dX8_put_38 ?_
  refine xtop (y := nI (mn + 2)) ((nI_add (mn + 1) 1).trans (congrArg nI (by omega))) ?_
  refine va_put (D := E.1) (ci := 9) (v := .int (nI (mn + 2))) (ty := tyX8 28) (C := RX8) (T := TX8) (N := 41) hx hb hts hiX8 tyX8 tyX8_ok nmX8 hown hev.1 hP hD hS 0 rfl rfl 28 (by decide) hf206 (fun _ h9 => h9) rfl (tyX8_ok 28 (by decide)) rfl rfl (Nat.le_of_ble_eq_true rfl) dX8_put_39 (fun H locs hP hD hS => ?_)
  have hP : va_P E.1 vwCl [(m, .inr (9, [.int th, .int (nI kn), .int (nI rn), .ref (ad 3), .ref (ad 4), .ref (ad 5), .ref (ad 6), .ref (ad 7), .ref (ad 8), .ref (ad 9), .ref (ad 10), .ref (ad 11), .ref (ad 12), .ref (ad 13), .ref (ad 14), .ref (ad 15), .ref (ad 16), .ref (ad 17), .ref (ad 18), .ref (ad 19), .ref (ad 20), .ref (ad 21), .ref (ad 22), .ref (ad 23), .ref (ad 24), .ref (ad 25), .ref (ad 26), .ref (ad 27), .int (nI (mn + 2)), .ref (ad 29), .ref (ad 30), .ref (ad 31), .ref (ad 32), .ref (ad 33), .ref (ad 34), .ref (ad 35), .ref (ad 36), .ref (ad 37), .int (nI dp), .ref (ad 39), .ref (ad 40)])), (ad 29, aI E 256 f4)] H := hP
  have hD : va_D A [(m, .inr (9, [.int th, .int (nI kn), .int (nI rn), .ref (ad 3), .ref (ad 4), .ref (ad 5), .ref (ad 6), .ref (ad 7), .ref (ad 8), .ref (ad 9), .ref (ad 10), .ref (ad 11), .ref (ad 12), .ref (ad 13), .ref (ad 14), .ref (ad 15), .ref (ad 16), .ref (ad 17), .ref (ad 18), .ref (ad 19), .ref (ad 20), .ref (ad 21), .ref (ad 22), .ref (ad 23), .ref (ad 24), .ref (ad 25), .ref (ad 26), .ref (ad 27), .int (nI (mn + 2)), .ref (ad 29), .ref (ad 30), .ref (ad 31), .ref (ad 32), .ref (ad 33), .ref (ad 34), .ref (ad 35), .ref (ad 36), .ref (ad 37), .int (nI dp), .ref (ad 39), .ref (ad 40)])), (ad 29, aI E 256 f4)] := hD
  refine lv_iinc (v := 8) (lv' := [(4, .int 8), (0, .ref m), (1, .long v), (3, .int 4)]) hx hb dX8_put_42 hl (k := 0) rfl (by decide) (by decide) rfl (fun ls hl => ?_)
  refine lv_goto (tgt := 9) hx hb dX8_put_45 (by decide) ?_
  refine lv_iload hx hb dX8_put_9 (lv_at hl 0 rfl) ?_
  refine lv_if_lt (tgt := 48) hx hb dX8_put_11 (by decide) (fun c5 => absurd c5 (by decide)) (fun c5 => ?_)
  refine lv_aload_n hx hb dX8_put_14 rfl (lv_at hl 1 rfl) ?_
  refine va_get (D := E.1) (ci := 9) (v := .ref (ad 29)) (C := RX8) (T := TX8) (N := 41) hx hb hts hiX8 hown hev.1 hP 0 rfl rfl 29 (by decide) hf87 (fun _ h9 => h9) rfl dX8_put_15 ?_
  refine lv_aload_n hx hb dX8_put_18 rfl (lv_at hl 1 rfl) ?_
  refine va_get (D := E.1) (ci := 9) (v := .int (nI (mn + 2))) (C := RX8) (T := TX8) (N := 41) hx hb hts hiX8 hown hev.1 hP 0 rfl rfl 28 (by decide) hf206 (fun _ h9 => h9) rfl dX8_put_19 ?_
  refine lv_lload_n hx hb dX8_put_22 rfl (lv_at hl 2 rfl) ?_
  refine lv_iload hx hb dX8_put_23 (lv_at hl 0 rfl) ?_
  refine lv_lshr (v := v >>> ((8 : Int32).toInt64 &&& 63)) hx hb dX8_put_25 rfl ?_
  refine lv_ldc2 hx hb hown hk209 dX8_put_26 ?_
  refine lv_land hx hb dX8_put_29 ?_
  refine lv_l2i (v := ((v >>> ((8 : Int32).toInt64 &&& 63)) &&& 255).toInt32) hx hb dX8_put_30 rfl ?_
  refine xiast (k := mn + 2) hx hb hev.1 hP hD hS 1 1 rfl rfl (by omega) (by decide) dX8_put_31 (fun H locs hP hD hS => ?_)
  obtain ⟨f6, ef6⟩ : ∃ y9_ : Nat → Int32, y9_ = upd f4 (mn + 2) (((v >>> ((8 : Int32).toInt64 &&& 63)) &&& 255).toInt32) := ⟨_, rfl⟩
  rw [← ef6] at hP hD
  have hP : va_P E.1 vwCl [(m, .inr (9, [.int th, .int (nI kn), .int (nI rn), .ref (ad 3), .ref (ad 4), .ref (ad 5), .ref (ad 6), .ref (ad 7), .ref (ad 8), .ref (ad 9), .ref (ad 10), .ref (ad 11), .ref (ad 12), .ref (ad 13), .ref (ad 14), .ref (ad 15), .ref (ad 16), .ref (ad 17), .ref (ad 18), .ref (ad 19), .ref (ad 20), .ref (ad 21), .ref (ad 22), .ref (ad 23), .ref (ad 24), .ref (ad 25), .ref (ad 26), .ref (ad 27), .int (nI (mn + 2)), .ref (ad 29), .ref (ad 30), .ref (ad 31), .ref (ad 32), .ref (ad 33), .ref (ad 34), .ref (ad 35), .ref (ad 36), .ref (ad 37), .int (nI dp), .ref (ad 39), .ref (ad 40)])), (ad 29, aI E 256 f6)] H := hP
  have hD : va_D A [(m, .inr (9, [.int th, .int (nI kn), .int (nI rn), .ref (ad 3), .ref (ad 4), .ref (ad 5), .ref (ad 6), .ref (ad 7), .ref (ad 8), .ref (ad 9), .ref (ad 10), .ref (ad 11), .ref (ad 12), .ref (ad 13), .ref (ad 14), .ref (ad 15), .ref (ad 16), .ref (ad 17), .ref (ad 18), .ref (ad 19), .ref (ad 20), .ref (ad 21), .ref (ad 22), .ref (ad 23), .ref (ad 24), .ref (ad 25), .ref (ad 26), .ref (ad 27), .int (nI (mn + 2)), .ref (ad 29), .ref (ad 30), .ref (ad 31), .ref (ad 32), .ref (ad 33), .ref (ad 34), .ref (ad 35), .ref (ad 36), .ref (ad 37), .int (nI dp), .ref (ad 39), .ref (ad 40)])), (ad 29, aI E 256 f6)] := hD
  refine lv_aload_n hx hb dX8_put_32 rfl (lv_at hl 1 rfl) ?_
  refine lv_dup hx hb dX8_put_33 rfl ?_
  refine va_get (D := E.1) (ci := 9) (v := .int (nI (mn + 2))) (C := RX8) (T := TX8) (N := 41) hx hb hts hiX8 hown hev.1 hP 0 rfl rfl 28 (by decide) hf206 (fun _ h9 => h9) rfl dX8_put_34 ?_
  refine lv_iconst (v := 1) hx hb dX8_put_37 (by decide) ?_
  refine lv_iadd hx hb dX8_put_38 ?_
  refine xtop (y := nI (mn + 3)) ((nI_add (mn + 2) 1).trans (congrArg nI (by omega))) ?_
  refine va_put (D := E.1) (ci := 9) (v := .int (nI (mn + 3))) (ty := tyX8 28) (C := RX8) (T := TX8) (N := 41) hx hb hts hiX8 tyX8 tyX8_ok nmX8 hown hev.1 hP hD hS 0 rfl rfl 28 (by decide) hf206 (fun _ h9 => h9) rfl (tyX8_ok 28 (by decide)) rfl rfl (Nat.le_of_ble_eq_true rfl) dX8_put_39 (fun H locs hP hD hS => ?_)
  have hP : va_P E.1 vwCl [(m, .inr (9, [.int th, .int (nI kn), .int (nI rn), .ref (ad 3), .ref (ad 4), .ref (ad 5), .ref (ad 6), .ref (ad 7), .ref (ad 8), .ref (ad 9), .ref (ad 10), .ref (ad 11), .ref (ad 12), .ref (ad 13), .ref (ad 14), .ref (ad 15), .ref (ad 16), .ref (ad 17), .ref (ad 18), .ref (ad 19), .ref (ad 20), .ref (ad 21), .ref (ad 22), .ref (ad 23), .ref (ad 24), .ref (ad 25), .ref (ad 26), .ref (ad 27), .int (nI (mn + 3)), .ref (ad 29), .ref (ad 30), .ref (ad 31), .ref (ad 32), .ref (ad 33), .ref (ad 34), .ref (ad 35), .ref (ad 36), .ref (ad 37), .int (nI dp), .ref (ad 39), .ref (ad 40)])), (ad 29, aI E 256 f6)] H := hP
  have hD : va_D A [(m, .inr (9, [.int th, .int (nI kn), .int (nI rn), .ref (ad 3), .ref (ad 4), .ref (ad 5), .ref (ad 6), .ref (ad 7), .ref (ad 8), .ref (ad 9), .ref (ad 10), .ref (ad 11), .ref (ad 12), .ref (ad 13), .ref (ad 14), .ref (ad 15), .ref (ad 16), .ref (ad 17), .ref (ad 18), .ref (ad 19), .ref (ad 20), .ref (ad 21), .ref (ad 22), .ref (ad 23), .ref (ad 24), .ref (ad 25), .ref (ad 26), .ref (ad 27), .int (nI (mn + 3)), .ref (ad 29), .ref (ad 30), .ref (ad 31), .ref (ad 32), .ref (ad 33), .ref (ad 34), .ref (ad 35), .ref (ad 36), .ref (ad 37), .int (nI dp), .ref (ad 39), .ref (ad 40)])), (ad 29, aI E 256 f6)] := hD
  refine lv_iinc (v := 0) (lv' := [(4, .int 0), (0, .ref m), (1, .long v), (3, .int 4)]) hx hb dX8_put_42 hl (k := 0) rfl (by decide) (by decide) rfl (fun ls hl => ?_)
  refine lv_goto (tgt := 9) hx hb dX8_put_45 (by decide) ?_
  refine lv_iload hx hb dX8_put_9 (lv_at hl 0 rfl) ?_
  refine lv_if_lt (tgt := 48) hx hb dX8_put_11 (by decide) (fun c7 => absurd c7 (by decide)) (fun c7 => ?_)
  refine lv_aload_n hx hb dX8_put_14 rfl (lv_at hl 1 rfl) ?_
  refine va_get (D := E.1) (ci := 9) (v := .ref (ad 29)) (C := RX8) (T := TX8) (N := 41) hx hb hts hiX8 hown hev.1 hP 0 rfl rfl 29 (by decide) hf87 (fun _ h9 => h9) rfl dX8_put_15 ?_
  refine lv_aload_n hx hb dX8_put_18 rfl (lv_at hl 1 rfl) ?_
  refine va_get (D := E.1) (ci := 9) (v := .int (nI (mn + 3))) (C := RX8) (T := TX8) (N := 41) hx hb hts hiX8 hown hev.1 hP 0 rfl rfl 28 (by decide) hf206 (fun _ h9 => h9) rfl dX8_put_19 ?_
  refine lv_lload_n hx hb dX8_put_22 rfl (lv_at hl 2 rfl) ?_
  refine lv_iload hx hb dX8_put_23 (lv_at hl 0 rfl) ?_
  refine lv_lshr (v := v >>> ((0 : Int32).toInt64 &&& 63)) hx hb dX8_put_25 rfl ?_
  refine lv_ldc2 hx hb hown hk209 dX8_put_26 ?_
  refine lv_land hx hb dX8_put_29 ?_
  refine lv_l2i (v := ((v >>> ((0 : Int32).toInt64 &&& 63)) &&& 255).toInt32) hx hb dX8_put_30 rfl ?_
  refine xiast (k := mn + 3) hx hb hev.1 hP hD hS 1 1 rfl rfl (by omega) (by decide) dX8_put_31 (fun H locs hP hD hS => ?_)
  obtain ⟨f8, ef8⟩ : ∃ y9_ : Nat → Int32, y9_ = upd f6 (mn + 3) (((v >>> ((0 : Int32).toInt64 &&& 63)) &&& 255).toInt32) := ⟨_, rfl⟩
  rw [← ef8] at hP hD
  have hP : va_P E.1 vwCl [(m, .inr (9, [.int th, .int (nI kn), .int (nI rn), .ref (ad 3), .ref (ad 4), .ref (ad 5), .ref (ad 6), .ref (ad 7), .ref (ad 8), .ref (ad 9), .ref (ad 10), .ref (ad 11), .ref (ad 12), .ref (ad 13), .ref (ad 14), .ref (ad 15), .ref (ad 16), .ref (ad 17), .ref (ad 18), .ref (ad 19), .ref (ad 20), .ref (ad 21), .ref (ad 22), .ref (ad 23), .ref (ad 24), .ref (ad 25), .ref (ad 26), .ref (ad 27), .int (nI (mn + 3)), .ref (ad 29), .ref (ad 30), .ref (ad 31), .ref (ad 32), .ref (ad 33), .ref (ad 34), .ref (ad 35), .ref (ad 36), .ref (ad 37), .int (nI dp), .ref (ad 39), .ref (ad 40)])), (ad 29, aI E 256 f8)] H := hP
  have hD : va_D A [(m, .inr (9, [.int th, .int (nI kn), .int (nI rn), .ref (ad 3), .ref (ad 4), .ref (ad 5), .ref (ad 6), .ref (ad 7), .ref (ad 8), .ref (ad 9), .ref (ad 10), .ref (ad 11), .ref (ad 12), .ref (ad 13), .ref (ad 14), .ref (ad 15), .ref (ad 16), .ref (ad 17), .ref (ad 18), .ref (ad 19), .ref (ad 20), .ref (ad 21), .ref (ad 22), .ref (ad 23), .ref (ad 24), .ref (ad 25), .ref (ad 26), .ref (ad 27), .int (nI (mn + 3)), .ref (ad 29), .ref (ad 30), .ref (ad 31), .ref (ad 32), .ref (ad 33), .ref (ad 34), .ref (ad 35), .ref (ad 36), .ref (ad 37), .int (nI dp), .ref (ad 39), .ref (ad 40)])), (ad 29, aI E 256 f8)] := hD
  refine lv_aload_n hx hb dX8_put_32 rfl (lv_at hl 1 rfl) ?_
  refine lv_dup hx hb dX8_put_33 rfl ?_
  refine va_get (D := E.1) (ci := 9) (v := .int (nI (mn + 3))) (C := RX8) (T := TX8) (N := 41) hx hb hts hiX8 hown hev.1 hP 0 rfl rfl 28 (by decide) hf206 (fun _ h9 => h9) rfl dX8_put_34 ?_
  refine lv_iconst (v := 1) hx hb dX8_put_37 (by decide) ?_
  refine lv_iadd hx hb dX8_put_38 ?_
  refine xtop (y := nI (mn + 4)) ((nI_add (mn + 3) 1).trans (congrArg nI (by omega))) ?_
  refine va_put (D := E.1) (ci := 9) (v := .int (nI (mn + 4))) (ty := tyX8 28) (C := RX8) (T := TX8) (N := 41) hx hb hts hiX8 tyX8 tyX8_ok nmX8 hown hev.1 hP hD hS 0 rfl rfl 28 (by decide) hf206 (fun _ h9 => h9) rfl (tyX8_ok 28 (by decide)) rfl rfl (Nat.le_of_ble_eq_true rfl) dX8_put_39 (fun H locs hP hD hS => ?_)
  have hP : va_P E.1 vwCl [(m, .inr (9, [.int th, .int (nI kn), .int (nI rn), .ref (ad 3), .ref (ad 4), .ref (ad 5), .ref (ad 6), .ref (ad 7), .ref (ad 8), .ref (ad 9), .ref (ad 10), .ref (ad 11), .ref (ad 12), .ref (ad 13), .ref (ad 14), .ref (ad 15), .ref (ad 16), .ref (ad 17), .ref (ad 18), .ref (ad 19), .ref (ad 20), .ref (ad 21), .ref (ad 22), .ref (ad 23), .ref (ad 24), .ref (ad 25), .ref (ad 26), .ref (ad 27), .int (nI (mn + 4)), .ref (ad 29), .ref (ad 30), .ref (ad 31), .ref (ad 32), .ref (ad 33), .ref (ad 34), .ref (ad 35), .ref (ad 36), .ref (ad 37), .int (nI dp), .ref (ad 39), .ref (ad 40)])), (ad 29, aI E 256 f8)] H := hP
  have hD : va_D A [(m, .inr (9, [.int th, .int (nI kn), .int (nI rn), .ref (ad 3), .ref (ad 4), .ref (ad 5), .ref (ad 6), .ref (ad 7), .ref (ad 8), .ref (ad 9), .ref (ad 10), .ref (ad 11), .ref (ad 12), .ref (ad 13), .ref (ad 14), .ref (ad 15), .ref (ad 16), .ref (ad 17), .ref (ad 18), .ref (ad 19), .ref (ad 20), .ref (ad 21), .ref (ad 22), .ref (ad 23), .ref (ad 24), .ref (ad 25), .ref (ad 26), .ref (ad 27), .int (nI (mn + 4)), .ref (ad 29), .ref (ad 30), .ref (ad 31), .ref (ad 32), .ref (ad 33), .ref (ad 34), .ref (ad 35), .ref (ad 36), .ref (ad 37), .int (nI dp), .ref (ad 39), .ref (ad 40)])), (ad 29, aI E 256 f8)] := hD
  refine lv_iinc (v := (-8)) (lv' := [(4, .int (-8)), (0, .ref m), (1, .long v), (3, .int 4)]) hx hb dX8_put_42 hl (k := 0) rfl (by decide) (by decide) rfl (fun ls hl => ?_)
  refine lv_goto (tgt := 9) hx hb dX8_put_45 (by decide) ?_
  refine lv_iload hx hb dX8_put_9 (lv_at hl 0 rfl) ?_
  refine lv_if_lt (tgt := 48) hx hb dX8_put_11 (by decide) (fun c9 => ?_) (fun c9 => absurd (by decide) c9)
  refine xrv hx hb hr hlocks hP hD hS ⟨f8, rfl, ?_⟩ dX8_put_48
  subst_vars
  simp only [ap, uB4, ub, Nat.add_assoc, Nat.reduceAdd]

abbrev pX8_put8 (E : xE) (m : Nat) (ad : Nat → Nat) (th : Int32) (kn : Nat) (rn : Nat) (mn : Nat) (dp : Nat) (a29 : Nat → Int32) (v : Int64) (w : va_W) : Prop := ∃ (g : Nat → Int32), w = [(m, .inr (9, [.int th, .int (nI kn), .int (nI rn), .ref (ad 3), .ref (ad 4), .ref (ad 5), .ref (ad 6), .ref (ad 7), .ref (ad 8), .ref (ad 9), .ref (ad 10), .ref (ad 11), .ref (ad 12), .ref (ad 13), .ref (ad 14), .ref (ad 15), .ref (ad 16), .ref (ad 17), .ref (ad 18), .ref (ad 19), .ref (ad 20), .ref (ad 21), .ref (ad 22), .ref (ad 23), .ref (ad 24), .ref (ad 25), .ref (ad 26), .ref (ad 27), .int (nI (mn + 8)), .ref (ad 29), .ref (ad 30), .ref (ad 31), .ref (ad 32), .ref (ad 33), .ref (ad 34), .ref (ad 35), .ref (ad 36), .ref (ad 37), .int (nI dp), .ref (ad 39), .ref (ad 40)])), (ad 29, aI E 256 g)] ∧ (g = ap a29 mn (uB8 v))
set_option maxHeartbeats 4000000 in
set_option maxRecDepth 100000 in
theorem kX8_put8 (l : Launch) (E : xE) (m : Nat) (ad : Nat → Nat) (th : Int32) (kn : Nat) (rn : Nat) (mn : Nat) (dp : Nat) (a29 : Nat → Int32) (v : Int64) (hmn : mn + 8 ≤ 256) : KT l yX8_put wsX8_put 0 0 0 0 E [(m, .inr (9, [.int th, .int (nI kn), .int (nI rn), .ref (ad 3), .ref (ad 4), .ref (ad 5), .ref (ad 6), .ref (ad 7), .ref (ad 8), .ref (ad 9), .ref (ad 10), .ref (ad 11), .ref (ad 12), .ref (ad 13), .ref (ad 14), .ref (ad 15), .ref (ad 16), .ref (ad 17), .ref (ad 18), .ref (ad 19), .ref (ad 20), .ref (ad 21), .ref (ad 22), .ref (ad 23), .ref (ad 24), .ref (ad 25), .ref (ad 26), .ref (ad 27), .int (nI mn), .ref (ad 29), .ref (ad 30), .ref (ad 31), .ref (ad 32), .ref (ad 33), .ref (ad 34), .ref (ad 35), .ref (ad 36), .ref (ad 37), .int (nI dp), .ref (ad 39), .ref (ad 40)])), (ad 29, aI E 256 a29)] [] [.ref m, .long v, .int 8] (QV E (pX8_put8 E m ad th kn rn mn dp a29 v)) := by
  refine KT.start (cc := cX8_put) (maxL := 5) (ret := none) (by decide) rfl (Nat.le_of_ble_eq_true rfl) ?_
  intro p e s m below meth c A H hx hb hr hlocks hml hts hown hin hP hR0 hD hap hev hz hA hS ls hl
  have hl : lv_has ls 5 [(0, .ref m), (1, .long v), (3, .int 8)] := hl
  have hiX8 : ∀ w ∈ wsX80, w ∈ wsX8_put := by decide +kernel
  have hf206 := hts (.fieldLink RX8 206 "SignQuorumModel" "many" "I") (by decide +kernel)
  have hf87 := hts (.fieldLink RX8 87 "SignQuorumModel" "bytes" "[I") (by decide +kernel)
  have hk209 := hts (.constantLong RX8 209 (255)) (by decide +kernel)
  refine lv_bipush (v := 8) hx hb dX8_put_0 (by decide) ?_
  refine lv_iload_n hx hb dX8_put_2 rfl (lv_at hl 2 rfl) ?_
  refine lv_imul hx hb dX8_put_3 ?_
  refine xtop (y := 64) (by decide) ?_
  refine lv_bipush (v := 8) hx hb dX8_put_4 (by decide) ?_
  refine lv_isub hx hb dX8_put_6 ?_
  refine xtop (y := 56) (by decide) ?_
  refine lv_istore (lv' := [(4, .int 56), (0, .ref m), (1, .long v), (3, .int 8)]) hx hb dX8_put_7 hl (by decide) rfl (fun ls hl => ?_)
  refine lv_iload hx hb dX8_put_9 (lv_at hl 0 rfl) ?_
  refine lv_if_lt (tgt := 48) hx hb dX8_put_11 (by decide) (fun c1 => absurd c1 (by decide)) (fun c1 => ?_)
  refine lv_aload_n hx hb dX8_put_14 rfl (lv_at hl 1 rfl) ?_
  refine va_get (D := E.1) (ci := 9) (v := .ref (ad 29)) (C := RX8) (T := TX8) (N := 41) hx hb hts hiX8 hown hev.1 hP 0 rfl rfl 29 (by decide) hf87 (fun _ h9 => h9) rfl dX8_put_15 ?_
  refine lv_aload_n hx hb dX8_put_18 rfl (lv_at hl 1 rfl) ?_
  refine va_get (D := E.1) (ci := 9) (v := .int (nI mn)) (C := RX8) (T := TX8) (N := 41) hx hb hts hiX8 hown hev.1 hP 0 rfl rfl 28 (by decide) hf206 (fun _ h9 => h9) rfl dX8_put_19 ?_
  refine lv_lload_n hx hb dX8_put_22 rfl (lv_at hl 2 rfl) ?_
  refine lv_iload hx hb dX8_put_23 (lv_at hl 0 rfl) ?_
  refine lv_lshr (v := v >>> ((56 : Int32).toInt64 &&& 63)) hx hb dX8_put_25 rfl ?_
  refine lv_ldc2 hx hb hown hk209 dX8_put_26 ?_
  refine lv_land hx hb dX8_put_29 ?_
  refine lv_l2i (v := ((v >>> ((56 : Int32).toInt64 &&& 63)) &&& 255).toInt32) hx hb dX8_put_30 rfl ?_
  refine xiast (k := mn) hx hb hev.1 hP hD hS 1 1 rfl rfl (by omega) (by decide) dX8_put_31 (fun H locs hP hD hS => ?_)
  obtain ⟨f2, ef2⟩ : ∃ y9_ : Nat → Int32, y9_ = upd a29 mn (((v >>> ((56 : Int32).toInt64 &&& 63)) &&& 255).toInt32) := ⟨_, rfl⟩
  rw [← ef2] at hP hD
  have hP : va_P E.1 vwCl [(m, .inr (9, [.int th, .int (nI kn), .int (nI rn), .ref (ad 3), .ref (ad 4), .ref (ad 5), .ref (ad 6), .ref (ad 7), .ref (ad 8), .ref (ad 9), .ref (ad 10), .ref (ad 11), .ref (ad 12), .ref (ad 13), .ref (ad 14), .ref (ad 15), .ref (ad 16), .ref (ad 17), .ref (ad 18), .ref (ad 19), .ref (ad 20), .ref (ad 21), .ref (ad 22), .ref (ad 23), .ref (ad 24), .ref (ad 25), .ref (ad 26), .ref (ad 27), .int (nI mn), .ref (ad 29), .ref (ad 30), .ref (ad 31), .ref (ad 32), .ref (ad 33), .ref (ad 34), .ref (ad 35), .ref (ad 36), .ref (ad 37), .int (nI dp), .ref (ad 39), .ref (ad 40)])), (ad 29, aI E 256 f2)] H := hP
  have hD : va_D A [(m, .inr (9, [.int th, .int (nI kn), .int (nI rn), .ref (ad 3), .ref (ad 4), .ref (ad 5), .ref (ad 6), .ref (ad 7), .ref (ad 8), .ref (ad 9), .ref (ad 10), .ref (ad 11), .ref (ad 12), .ref (ad 13), .ref (ad 14), .ref (ad 15), .ref (ad 16), .ref (ad 17), .ref (ad 18), .ref (ad 19), .ref (ad 20), .ref (ad 21), .ref (ad 22), .ref (ad 23), .ref (ad 24), .ref (ad 25), .ref (ad 26), .ref (ad 27), .int (nI mn), .ref (ad 29), .ref (ad 30), .ref (ad 31), .ref (ad 32), .ref (ad 33), .ref (ad 34), .ref (ad 35), .ref (ad 36), .ref (ad 37), .int (nI dp), .ref (ad 39), .ref (ad 40)])), (ad 29, aI E 256 f2)] := hD
  refine lv_aload_n hx hb dX8_put_32 rfl (lv_at hl 1 rfl) ?_
  refine lv_dup hx hb dX8_put_33 rfl ?_
  refine va_get (D := E.1) (ci := 9) (v := .int (nI mn)) (C := RX8) (T := TX8) (N := 41) hx hb hts hiX8 hown hev.1 hP 0 rfl rfl 28 (by decide) hf206 (fun _ h9 => h9) rfl dX8_put_34 ?_
  refine lv_iconst (v := 1) hx hb dX8_put_37 (by decide) ?_
  refine lv_iadd hx hb dX8_put_38 ?_
  refine xtop (y := nI (mn + 1)) ((nI_add mn 1).trans (congrArg nI (by omega))) ?_
  refine va_put (D := E.1) (ci := 9) (v := .int (nI (mn + 1))) (ty := tyX8 28) (C := RX8) (T := TX8) (N := 41) hx hb hts hiX8 tyX8 tyX8_ok nmX8 hown hev.1 hP hD hS 0 rfl rfl 28 (by decide) hf206 (fun _ h9 => h9) rfl (tyX8_ok 28 (by decide)) rfl rfl (Nat.le_of_ble_eq_true rfl) dX8_put_39 (fun H locs hP hD hS => ?_)
  have hP : va_P E.1 vwCl [(m, .inr (9, [.int th, .int (nI kn), .int (nI rn), .ref (ad 3), .ref (ad 4), .ref (ad 5), .ref (ad 6), .ref (ad 7), .ref (ad 8), .ref (ad 9), .ref (ad 10), .ref (ad 11), .ref (ad 12), .ref (ad 13), .ref (ad 14), .ref (ad 15), .ref (ad 16), .ref (ad 17), .ref (ad 18), .ref (ad 19), .ref (ad 20), .ref (ad 21), .ref (ad 22), .ref (ad 23), .ref (ad 24), .ref (ad 25), .ref (ad 26), .ref (ad 27), .int (nI (mn + 1)), .ref (ad 29), .ref (ad 30), .ref (ad 31), .ref (ad 32), .ref (ad 33), .ref (ad 34), .ref (ad 35), .ref (ad 36), .ref (ad 37), .int (nI dp), .ref (ad 39), .ref (ad 40)])), (ad 29, aI E 256 f2)] H := hP
  have hD : va_D A [(m, .inr (9, [.int th, .int (nI kn), .int (nI rn), .ref (ad 3), .ref (ad 4), .ref (ad 5), .ref (ad 6), .ref (ad 7), .ref (ad 8), .ref (ad 9), .ref (ad 10), .ref (ad 11), .ref (ad 12), .ref (ad 13), .ref (ad 14), .ref (ad 15), .ref (ad 16), .ref (ad 17), .ref (ad 18), .ref (ad 19), .ref (ad 20), .ref (ad 21), .ref (ad 22), .ref (ad 23), .ref (ad 24), .ref (ad 25), .ref (ad 26), .ref (ad 27), .int (nI (mn + 1)), .ref (ad 29), .ref (ad 30), .ref (ad 31), .ref (ad 32), .ref (ad 33), .ref (ad 34), .ref (ad 35), .ref (ad 36), .ref (ad 37), .int (nI dp), .ref (ad 39), .ref (ad 40)])), (ad 29, aI E 256 f2)] := hD
  refine lv_iinc (v := 48) (lv' := [(4, .int 48), (0, .ref m), (1, .long v), (3, .int 8)]) hx hb dX8_put_42 hl (k := 0) rfl (by decide) (by decide) rfl (fun ls hl => ?_)
  refine lv_goto (tgt := 9) hx hb dX8_put_45 (by decide) ?_
  refine lv_iload hx hb dX8_put_9 (lv_at hl 0 rfl) ?_
  refine lv_if_lt (tgt := 48) hx hb dX8_put_11 (by decide) (fun c3 => absurd c3 (by decide)) (fun c3 => ?_)
  refine lv_aload_n hx hb dX8_put_14 rfl (lv_at hl 1 rfl) ?_
  refine va_get (D := E.1) (ci := 9) (v := .ref (ad 29)) (C := RX8) (T := TX8) (N := 41) hx hb hts hiX8 hown hev.1 hP 0 rfl rfl 29 (by decide) hf87 (fun _ h9 => h9) rfl dX8_put_15 ?_
  refine lv_aload_n hx hb dX8_put_18 rfl (lv_at hl 1 rfl) ?_
  refine va_get (D := E.1) (ci := 9) (v := .int (nI (mn + 1))) (C := RX8) (T := TX8) (N := 41) hx hb hts hiX8 hown hev.1 hP 0 rfl rfl 28 (by decide) hf206 (fun _ h9 => h9) rfl dX8_put_19 ?_
  refine lv_lload_n hx hb dX8_put_22 rfl (lv_at hl 2 rfl) ?_
  refine lv_iload hx hb dX8_put_23 (lv_at hl 0 rfl) ?_
  refine lv_lshr (v := v >>> ((48 : Int32).toInt64 &&& 63)) hx hb dX8_put_25 rfl ?_
  refine lv_ldc2 hx hb hown hk209 dX8_put_26 ?_
  refine lv_land hx hb dX8_put_29 ?_
  refine lv_l2i (v := ((v >>> ((48 : Int32).toInt64 &&& 63)) &&& 255).toInt32) hx hb dX8_put_30 rfl ?_
  refine xiast (k := mn + 1) hx hb hev.1 hP hD hS 1 1 rfl rfl (by omega) (by decide) dX8_put_31 (fun H locs hP hD hS => ?_)
  obtain ⟨f4, ef4⟩ : ∃ y9_ : Nat → Int32, y9_ = upd f2 (mn + 1) (((v >>> ((48 : Int32).toInt64 &&& 63)) &&& 255).toInt32) := ⟨_, rfl⟩
  rw [← ef4] at hP hD
  have hP : va_P E.1 vwCl [(m, .inr (9, [.int th, .int (nI kn), .int (nI rn), .ref (ad 3), .ref (ad 4), .ref (ad 5), .ref (ad 6), .ref (ad 7), .ref (ad 8), .ref (ad 9), .ref (ad 10), .ref (ad 11), .ref (ad 12), .ref (ad 13), .ref (ad 14), .ref (ad 15), .ref (ad 16), .ref (ad 17), .ref (ad 18), .ref (ad 19), .ref (ad 20), .ref (ad 21), .ref (ad 22), .ref (ad 23), .ref (ad 24), .ref (ad 25), .ref (ad 26), .ref (ad 27), .int (nI (mn + 1)), .ref (ad 29), .ref (ad 30), .ref (ad 31), .ref (ad 32), .ref (ad 33), .ref (ad 34), .ref (ad 35), .ref (ad 36), .ref (ad 37), .int (nI dp), .ref (ad 39), .ref (ad 40)])), (ad 29, aI E 256 f4)] H := hP
  have hD : va_D A [(m, .inr (9, [.int th, .int (nI kn), .int (nI rn), .ref (ad 3), .ref (ad 4), .ref (ad 5), .ref (ad 6), .ref (ad 7), .ref (ad 8), .ref (ad 9), .ref (ad 10), .ref (ad 11), .ref (ad 12), .ref (ad 13), .ref (ad 14), .ref (ad 15), .ref (ad 16), .ref (ad 17), .ref (ad 18), .ref (ad 19), .ref (ad 20), .ref (ad 21), .ref (ad 22), .ref (ad 23), .ref (ad 24), .ref (ad 25), .ref (ad 26), .ref (ad 27), .int (nI (mn + 1)), .ref (ad 29), .ref (ad 30), .ref (ad 31), .ref (ad 32), .ref (ad 33), .ref (ad 34), .ref (ad 35), .ref (ad 36), .ref (ad 37), .int (nI dp), .ref (ad 39), .ref (ad 40)])), (ad 29, aI E 256 f4)] := hD
  refine lv_aload_n hx hb dX8_put_32 rfl (lv_at hl 1 rfl) ?_
  refine lv_dup hx hb dX8_put_33 rfl ?_
  refine va_get (D := E.1) (ci := 9) (v := .int (nI (mn + 1))) (C := RX8) (T := TX8) (N := 41) hx hb hts hiX8 hown hev.1 hP 0 rfl rfl 28 (by decide) hf206 (fun _ h9 => h9) rfl dX8_put_34 ?_
  refine lv_iconst (v := 1) hx hb dX8_put_37 (by decide) ?_
  refine lv_iadd hx hb dX8_put_38 ?_
  refine xtop (y := nI (mn + 2)) ((nI_add (mn + 1) 1).trans (congrArg nI (by omega))) ?_
  refine va_put (D := E.1) (ci := 9) (v := .int (nI (mn + 2))) (ty := tyX8 28) (C := RX8) (T := TX8) (N := 41) hx hb hts hiX8 tyX8 tyX8_ok nmX8 hown hev.1 hP hD hS 0 rfl rfl 28 (by decide) hf206 (fun _ h9 => h9) rfl (tyX8_ok 28 (by decide)) rfl rfl (Nat.le_of_ble_eq_true rfl) dX8_put_39 (fun H locs hP hD hS => ?_)
  have hP : va_P E.1 vwCl [(m, .inr (9, [.int th, .int (nI kn), .int (nI rn), .ref (ad 3), .ref (ad 4), .ref (ad 5), .ref (ad 6), .ref (ad 7), .ref (ad 8), .ref (ad 9), .ref (ad 10), .ref (ad 11), .ref (ad 12), .ref (ad 13), .ref (ad 14), .ref (ad 15), .ref (ad 16), .ref (ad 17), .ref (ad 18), .ref (ad 19), .ref (ad 20), .ref (ad 21), .ref (ad 22), .ref (ad 23), .ref (ad 24), .ref (ad 25), .ref (ad 26), .ref (ad 27), .int (nI (mn + 2)), .ref (ad 29), .ref (ad 30), .ref (ad 31), .ref (ad 32), .ref (ad 33), .ref (ad 34), .ref (ad 35), .ref (ad 36), .ref (ad 37), .int (nI dp), .ref (ad 39), .ref (ad 40)])), (ad 29, aI E 256 f4)] H := hP
  have hD : va_D A [(m, .inr (9, [.int th, .int (nI kn), .int (nI rn), .ref (ad 3), .ref (ad 4), .ref (ad 5), .ref (ad 6), .ref (ad 7), .ref (ad 8), .ref (ad 9), .ref (ad 10), .ref (ad 11), .ref (ad 12), .ref (ad 13), .ref (ad 14), .ref (ad 15), .ref (ad 16), .ref (ad 17), .ref (ad 18), .ref (ad 19), .ref (ad 20), .ref (ad 21), .ref (ad 22), .ref (ad 23), .ref (ad 24), .ref (ad 25), .ref (ad 26), .ref (ad 27), .int (nI (mn + 2)), .ref (ad 29), .ref (ad 30), .ref (ad 31), .ref (ad 32), .ref (ad 33), .ref (ad 34), .ref (ad 35), .ref (ad 36), .ref (ad 37), .int (nI dp), .ref (ad 39), .ref (ad 40)])), (ad 29, aI E 256 f4)] := hD
  refine lv_iinc (v := 40) (lv' := [(4, .int 40), (0, .ref m), (1, .long v), (3, .int 8)]) hx hb dX8_put_42 hl (k := 0) rfl (by decide) (by decide) rfl (fun ls hl => ?_)
  refine lv_goto (tgt := 9) hx hb dX8_put_45 (by decide) ?_
  refine lv_iload hx hb dX8_put_9 (lv_at hl 0 rfl) ?_
  refine lv_if_lt (tgt := 48) hx hb dX8_put_11 (by decide) (fun c5 => absurd c5 (by decide)) (fun c5 => ?_)
  refine lv_aload_n hx hb dX8_put_14 rfl (lv_at hl 1 rfl) ?_
  refine va_get (D := E.1) (ci := 9) (v := .ref (ad 29)) (C := RX8) (T := TX8) (N := 41) hx hb hts hiX8 hown hev.1 hP 0 rfl rfl 29 (by decide) hf87 (fun _ h9 => h9) rfl dX8_put_15 ?_
  refine lv_aload_n hx hb dX8_put_18 rfl (lv_at hl 1 rfl) ?_
  refine va_get (D := E.1) (ci := 9) (v := .int (nI (mn + 2))) (C := RX8) (T := TX8) (N := 41) hx hb hts hiX8 hown hev.1 hP 0 rfl rfl 28 (by decide) hf206 (fun _ h9 => h9) rfl dX8_put_19 ?_
  refine lv_lload_n hx hb dX8_put_22 rfl (lv_at hl 2 rfl) ?_
  refine lv_iload hx hb dX8_put_23 (lv_at hl 0 rfl) ?_
  refine lv_lshr (v := v >>> ((40 : Int32).toInt64 &&& 63)) hx hb dX8_put_25 rfl ?_
  refine lv_ldc2 hx hb hown hk209 dX8_put_26 ?_
  refine lv_land hx hb dX8_put_29 ?_
  refine lv_l2i (v := ((v >>> ((40 : Int32).toInt64 &&& 63)) &&& 255).toInt32) hx hb dX8_put_30 rfl ?_
  refine xiast (k := mn + 2) hx hb hev.1 hP hD hS 1 1 rfl rfl (by omega) (by decide) dX8_put_31 (fun H locs hP hD hS => ?_)
  obtain ⟨f6, ef6⟩ : ∃ y9_ : Nat → Int32, y9_ = upd f4 (mn + 2) (((v >>> ((40 : Int32).toInt64 &&& 63)) &&& 255).toInt32) := ⟨_, rfl⟩
  rw [← ef6] at hP hD
  have hP : va_P E.1 vwCl [(m, .inr (9, [.int th, .int (nI kn), .int (nI rn), .ref (ad 3), .ref (ad 4), .ref (ad 5), .ref (ad 6), .ref (ad 7), .ref (ad 8), .ref (ad 9), .ref (ad 10), .ref (ad 11), .ref (ad 12), .ref (ad 13), .ref (ad 14), .ref (ad 15), .ref (ad 16), .ref (ad 17), .ref (ad 18), .ref (ad 19), .ref (ad 20), .ref (ad 21), .ref (ad 22), .ref (ad 23), .ref (ad 24), .ref (ad 25), .ref (ad 26), .ref (ad 27), .int (nI (mn + 2)), .ref (ad 29), .ref (ad 30), .ref (ad 31), .ref (ad 32), .ref (ad 33), .ref (ad 34), .ref (ad 35), .ref (ad 36), .ref (ad 37), .int (nI dp), .ref (ad 39), .ref (ad 40)])), (ad 29, aI E 256 f6)] H := hP
  have hD : va_D A [(m, .inr (9, [.int th, .int (nI kn), .int (nI rn), .ref (ad 3), .ref (ad 4), .ref (ad 5), .ref (ad 6), .ref (ad 7), .ref (ad 8), .ref (ad 9), .ref (ad 10), .ref (ad 11), .ref (ad 12), .ref (ad 13), .ref (ad 14), .ref (ad 15), .ref (ad 16), .ref (ad 17), .ref (ad 18), .ref (ad 19), .ref (ad 20), .ref (ad 21), .ref (ad 22), .ref (ad 23), .ref (ad 24), .ref (ad 25), .ref (ad 26), .ref (ad 27), .int (nI (mn + 2)), .ref (ad 29), .ref (ad 30), .ref (ad 31), .ref (ad 32), .ref (ad 33), .ref (ad 34), .ref (ad 35), .ref (ad 36), .ref (ad 37), .int (nI dp), .ref (ad 39), .ref (ad 40)])), (ad 29, aI E 256 f6)] := hD
  refine lv_aload_n hx hb dX8_put_32 rfl (lv_at hl 1 rfl) ?_
  refine lv_dup hx hb dX8_put_33 rfl ?_
  refine va_get (D := E.1) (ci := 9) (v := .int (nI (mn + 2))) (C := RX8) (T := TX8) (N := 41) hx hb hts hiX8 hown hev.1 hP 0 rfl rfl 28 (by decide) hf206 (fun _ h9 => h9) rfl dX8_put_34 ?_
  refine lv_iconst (v := 1) hx hb dX8_put_37 (by decide) ?_
  refine lv_iadd hx hb dX8_put_38 ?_
  refine xtop (y := nI (mn + 3)) ((nI_add (mn + 2) 1).trans (congrArg nI (by omega))) ?_
  refine va_put (D := E.1) (ci := 9) (v := .int (nI (mn + 3))) (ty := tyX8 28) (C := RX8) (T := TX8) (N := 41) hx hb hts hiX8 tyX8 tyX8_ok nmX8 hown hev.1 hP hD hS 0 rfl rfl 28 (by decide) hf206 (fun _ h9 => h9) rfl (tyX8_ok 28 (by decide)) rfl rfl (Nat.le_of_ble_eq_true rfl) dX8_put_39 (fun H locs hP hD hS => ?_)
  have hP : va_P E.1 vwCl [(m, .inr (9, [.int th, .int (nI kn), .int (nI rn), .ref (ad 3), .ref (ad 4), .ref (ad 5), .ref (ad 6), .ref (ad 7), .ref (ad 8), .ref (ad 9), .ref (ad 10), .ref (ad 11), .ref (ad 12), .ref (ad 13), .ref (ad 14), .ref (ad 15), .ref (ad 16), .ref (ad 17), .ref (ad 18), .ref (ad 19), .ref (ad 20), .ref (ad 21), .ref (ad 22), .ref (ad 23), .ref (ad 24), .ref (ad 25), .ref (ad 26), .ref (ad 27), .int (nI (mn + 3)), .ref (ad 29), .ref (ad 30), .ref (ad 31), .ref (ad 32), .ref (ad 33), .ref (ad 34), .ref (ad 35), .ref (ad 36), .ref (ad 37), .int (nI dp), .ref (ad 39), .ref (ad 40)])), (ad 29, aI E 256 f6)] H := hP
  have hD : va_D A [(m, .inr (9, [.int th, .int (nI kn), .int (nI rn), .ref (ad 3), .ref (ad 4), .ref (ad 5), .ref (ad 6), .ref (ad 7), .ref (ad 8), .ref (ad 9), .ref (ad 10), .ref (ad 11), .ref (ad 12), .ref (ad 13), .ref (ad 14), .ref (ad 15), .ref (ad 16), .ref (ad 17), .ref (ad 18), .ref (ad 19), .ref (ad 20), .ref (ad 21), .ref (ad 22), .ref (ad 23), .ref (ad 24), .ref (ad 25), .ref (ad 26), .ref (ad 27), .int (nI (mn + 3)), .ref (ad 29), .ref (ad 30), .ref (ad 31), .ref (ad 32), .ref (ad 33), .ref (ad 34), .ref (ad 35), .ref (ad 36), .ref (ad 37), .int (nI dp), .ref (ad 39), .ref (ad 40)])), (ad 29, aI E 256 f6)] := hD
  refine lv_iinc (v := 32) (lv' := [(4, .int 32), (0, .ref m), (1, .long v), (3, .int 8)]) hx hb dX8_put_42 hl (k := 0) rfl (by decide) (by decide) rfl (fun ls hl => ?_)
  refine lv_goto (tgt := 9) hx hb dX8_put_45 (by decide) ?_
  refine lv_iload hx hb dX8_put_9 (lv_at hl 0 rfl) ?_
  refine lv_if_lt (tgt := 48) hx hb dX8_put_11 (by decide) (fun c7 => absurd c7 (by decide)) (fun c7 => ?_)
  refine lv_aload_n hx hb dX8_put_14 rfl (lv_at hl 1 rfl) ?_
  refine va_get (D := E.1) (ci := 9) (v := .ref (ad 29)) (C := RX8) (T := TX8) (N := 41) hx hb hts hiX8 hown hev.1 hP 0 rfl rfl 29 (by decide) hf87 (fun _ h9 => h9) rfl dX8_put_15 ?_
  refine lv_aload_n hx hb dX8_put_18 rfl (lv_at hl 1 rfl) ?_
  refine va_get (D := E.1) (ci := 9) (v := .int (nI (mn + 3))) (C := RX8) (T := TX8) (N := 41) hx hb hts hiX8 hown hev.1 hP 0 rfl rfl 28 (by decide) hf206 (fun _ h9 => h9) rfl dX8_put_19 ?_
  refine lv_lload_n hx hb dX8_put_22 rfl (lv_at hl 2 rfl) ?_
  refine lv_iload hx hb dX8_put_23 (lv_at hl 0 rfl) ?_
  refine lv_lshr (v := v >>> ((32 : Int32).toInt64 &&& 63)) hx hb dX8_put_25 rfl ?_
  refine lv_ldc2 hx hb hown hk209 dX8_put_26 ?_
  refine lv_land hx hb dX8_put_29 ?_
  refine lv_l2i (v := ((v >>> ((32 : Int32).toInt64 &&& 63)) &&& 255).toInt32) hx hb dX8_put_30 rfl ?_
  refine xiast (k := mn + 3) hx hb hev.1 hP hD hS 1 1 rfl rfl (by omega) (by decide) dX8_put_31 (fun H locs hP hD hS => ?_)
  obtain ⟨f8, ef8⟩ : ∃ y9_ : Nat → Int32, y9_ = upd f6 (mn + 3) (((v >>> ((32 : Int32).toInt64 &&& 63)) &&& 255).toInt32) := ⟨_, rfl⟩
  rw [← ef8] at hP hD
  have hP : va_P E.1 vwCl [(m, .inr (9, [.int th, .int (nI kn), .int (nI rn), .ref (ad 3), .ref (ad 4), .ref (ad 5), .ref (ad 6), .ref (ad 7), .ref (ad 8), .ref (ad 9), .ref (ad 10), .ref (ad 11), .ref (ad 12), .ref (ad 13), .ref (ad 14), .ref (ad 15), .ref (ad 16), .ref (ad 17), .ref (ad 18), .ref (ad 19), .ref (ad 20), .ref (ad 21), .ref (ad 22), .ref (ad 23), .ref (ad 24), .ref (ad 25), .ref (ad 26), .ref (ad 27), .int (nI (mn + 3)), .ref (ad 29), .ref (ad 30), .ref (ad 31), .ref (ad 32), .ref (ad 33), .ref (ad 34), .ref (ad 35), .ref (ad 36), .ref (ad 37), .int (nI dp), .ref (ad 39), .ref (ad 40)])), (ad 29, aI E 256 f8)] H := hP
  have hD : va_D A [(m, .inr (9, [.int th, .int (nI kn), .int (nI rn), .ref (ad 3), .ref (ad 4), .ref (ad 5), .ref (ad 6), .ref (ad 7), .ref (ad 8), .ref (ad 9), .ref (ad 10), .ref (ad 11), .ref (ad 12), .ref (ad 13), .ref (ad 14), .ref (ad 15), .ref (ad 16), .ref (ad 17), .ref (ad 18), .ref (ad 19), .ref (ad 20), .ref (ad 21), .ref (ad 22), .ref (ad 23), .ref (ad 24), .ref (ad 25), .ref (ad 26), .ref (ad 27), .int (nI (mn + 3)), .ref (ad 29), .ref (ad 30), .ref (ad 31), .ref (ad 32), .ref (ad 33), .ref (ad 34), .ref (ad 35), .ref (ad 36), .ref (ad 37), .int (nI dp), .ref (ad 39), .ref (ad 40)])), (ad 29, aI E 256 f8)] := hD
  refine lv_aload_n hx hb dX8_put_32 rfl (lv_at hl 1 rfl) ?_
  refine lv_dup hx hb dX8_put_33 rfl ?_
  refine va_get (D := E.1) (ci := 9) (v := .int (nI (mn + 3))) (C := RX8) (T := TX8) (N := 41) hx hb hts hiX8 hown hev.1 hP 0 rfl rfl 28 (by decide) hf206 (fun _ h9 => h9) rfl dX8_put_34 ?_
  refine lv_iconst (v := 1) hx hb dX8_put_37 (by decide) ?_
  refine lv_iadd hx hb dX8_put_38 ?_
  refine xtop (y := nI (mn + 4)) ((nI_add (mn + 3) 1).trans (congrArg nI (by omega))) ?_
  refine va_put (D := E.1) (ci := 9) (v := .int (nI (mn + 4))) (ty := tyX8 28) (C := RX8) (T := TX8) (N := 41) hx hb hts hiX8 tyX8 tyX8_ok nmX8 hown hev.1 hP hD hS 0 rfl rfl 28 (by decide) hf206 (fun _ h9 => h9) rfl (tyX8_ok 28 (by decide)) rfl rfl (Nat.le_of_ble_eq_true rfl) dX8_put_39 (fun H locs hP hD hS => ?_)
  have hP : va_P E.1 vwCl [(m, .inr (9, [.int th, .int (nI kn), .int (nI rn), .ref (ad 3), .ref (ad 4), .ref (ad 5), .ref (ad 6), .ref (ad 7), .ref (ad 8), .ref (ad 9), .ref (ad 10), .ref (ad 11), .ref (ad 12), .ref (ad 13), .ref (ad 14), .ref (ad 15), .ref (ad 16), .ref (ad 17), .ref (ad 18), .ref (ad 19), .ref (ad 20), .ref (ad 21), .ref (ad 22), .ref (ad 23), .ref (ad 24), .ref (ad 25), .ref (ad 26), .ref (ad 27), .int (nI (mn + 4)), .ref (ad 29), .ref (ad 30), .ref (ad 31), .ref (ad 32), .ref (ad 33), .ref (ad 34), .ref (ad 35), .ref (ad 36), .ref (ad 37), .int (nI dp), .ref (ad 39), .ref (ad 40)])), (ad 29, aI E 256 f8)] H := hP
  have hD : va_D A [(m, .inr (9, [.int th, .int (nI kn), .int (nI rn), .ref (ad 3), .ref (ad 4), .ref (ad 5), .ref (ad 6), .ref (ad 7), .ref (ad 8), .ref (ad 9), .ref (ad 10), .ref (ad 11), .ref (ad 12), .ref (ad 13), .ref (ad 14), .ref (ad 15), .ref (ad 16), .ref (ad 17), .ref (ad 18), .ref (ad 19), .ref (ad 20), .ref (ad 21), .ref (ad 22), .ref (ad 23), .ref (ad 24), .ref (ad 25), .ref (ad 26), .ref (ad 27), .int (nI (mn + 4)), .ref (ad 29), .ref (ad 30), .ref (ad 31), .ref (ad 32), .ref (ad 33), .ref (ad 34), .ref (ad 35), .ref (ad 36), .ref (ad 37), .int (nI dp), .ref (ad 39), .ref (ad 40)])), (ad 29, aI E 256 f8)] := hD
  refine lv_iinc (v := 24) (lv' := [(4, .int 24), (0, .ref m), (1, .long v), (3, .int 8)]) hx hb dX8_put_42 hl (k := 0) rfl (by decide) (by decide) rfl (fun ls hl => ?_)
  refine lv_goto (tgt := 9) hx hb dX8_put_45 (by decide) ?_
  refine lv_iload hx hb dX8_put_9 (lv_at hl 0 rfl) ?_
  refine lv_if_lt (tgt := 48) hx hb dX8_put_11 (by decide) (fun c9 => absurd c9 (by decide)) (fun c9 => ?_)
  refine lv_aload_n hx hb dX8_put_14 rfl (lv_at hl 1 rfl) ?_
  refine va_get (D := E.1) (ci := 9) (v := .ref (ad 29)) (C := RX8) (T := TX8) (N := 41) hx hb hts hiX8 hown hev.1 hP 0 rfl rfl 29 (by decide) hf87 (fun _ h9 => h9) rfl dX8_put_15 ?_
  refine lv_aload_n hx hb dX8_put_18 rfl (lv_at hl 1 rfl) ?_
  refine va_get (D := E.1) (ci := 9) (v := .int (nI (mn + 4))) (C := RX8) (T := TX8) (N := 41) hx hb hts hiX8 hown hev.1 hP 0 rfl rfl 28 (by decide) hf206 (fun _ h9 => h9) rfl dX8_put_19 ?_
  refine lv_lload_n hx hb dX8_put_22 rfl (lv_at hl 2 rfl) ?_
  refine lv_iload hx hb dX8_put_23 (lv_at hl 0 rfl) ?_
  refine lv_lshr (v := v >>> ((24 : Int32).toInt64 &&& 63)) hx hb dX8_put_25 rfl ?_
  refine lv_ldc2 hx hb hown hk209 dX8_put_26 ?_
  refine lv_land hx hb dX8_put_29 ?_
  refine lv_l2i (v := ((v >>> ((24 : Int32).toInt64 &&& 63)) &&& 255).toInt32) hx hb dX8_put_30 rfl ?_
  refine xiast (k := mn + 4) hx hb hev.1 hP hD hS 1 1 rfl rfl (by omega) (by decide) dX8_put_31 (fun H locs hP hD hS => ?_)
  obtain ⟨f10, ef10⟩ : ∃ y9_ : Nat → Int32, y9_ = upd f8 (mn + 4) (((v >>> ((24 : Int32).toInt64 &&& 63)) &&& 255).toInt32) := ⟨_, rfl⟩
  rw [← ef10] at hP hD
  have hP : va_P E.1 vwCl [(m, .inr (9, [.int th, .int (nI kn), .int (nI rn), .ref (ad 3), .ref (ad 4), .ref (ad 5), .ref (ad 6), .ref (ad 7), .ref (ad 8), .ref (ad 9), .ref (ad 10), .ref (ad 11), .ref (ad 12), .ref (ad 13), .ref (ad 14), .ref (ad 15), .ref (ad 16), .ref (ad 17), .ref (ad 18), .ref (ad 19), .ref (ad 20), .ref (ad 21), .ref (ad 22), .ref (ad 23), .ref (ad 24), .ref (ad 25), .ref (ad 26), .ref (ad 27), .int (nI (mn + 4)), .ref (ad 29), .ref (ad 30), .ref (ad 31), .ref (ad 32), .ref (ad 33), .ref (ad 34), .ref (ad 35), .ref (ad 36), .ref (ad 37), .int (nI dp), .ref (ad 39), .ref (ad 40)])), (ad 29, aI E 256 f10)] H := hP
  have hD : va_D A [(m, .inr (9, [.int th, .int (nI kn), .int (nI rn), .ref (ad 3), .ref (ad 4), .ref (ad 5), .ref (ad 6), .ref (ad 7), .ref (ad 8), .ref (ad 9), .ref (ad 10), .ref (ad 11), .ref (ad 12), .ref (ad 13), .ref (ad 14), .ref (ad 15), .ref (ad 16), .ref (ad 17), .ref (ad 18), .ref (ad 19), .ref (ad 20), .ref (ad 21), .ref (ad 22), .ref (ad 23), .ref (ad 24), .ref (ad 25), .ref (ad 26), .ref (ad 27), .int (nI (mn + 4)), .ref (ad 29), .ref (ad 30), .ref (ad 31), .ref (ad 32), .ref (ad 33), .ref (ad 34), .ref (ad 35), .ref (ad 36), .ref (ad 37), .int (nI dp), .ref (ad 39), .ref (ad 40)])), (ad 29, aI E 256 f10)] := hD
  refine lv_aload_n hx hb dX8_put_32 rfl (lv_at hl 1 rfl) ?_
  refine lv_dup hx hb dX8_put_33 rfl ?_
  refine va_get (D := E.1) (ci := 9) (v := .int (nI (mn + 4))) (C := RX8) (T := TX8) (N := 41) hx hb hts hiX8 hown hev.1 hP 0 rfl rfl 28 (by decide) hf206 (fun _ h9 => h9) rfl dX8_put_34 ?_
  refine lv_iconst (v := 1) hx hb dX8_put_37 (by decide) ?_
  refine lv_iadd hx hb dX8_put_38 ?_
  refine xtop (y := nI (mn + 5)) ((nI_add (mn + 4) 1).trans (congrArg nI (by omega))) ?_
  refine va_put (D := E.1) (ci := 9) (v := .int (nI (mn + 5))) (ty := tyX8 28) (C := RX8) (T := TX8) (N := 41) hx hb hts hiX8 tyX8 tyX8_ok nmX8 hown hev.1 hP hD hS 0 rfl rfl 28 (by decide) hf206 (fun _ h9 => h9) rfl (tyX8_ok 28 (by decide)) rfl rfl (Nat.le_of_ble_eq_true rfl) dX8_put_39 (fun H locs hP hD hS => ?_)
  have hP : va_P E.1 vwCl [(m, .inr (9, [.int th, .int (nI kn), .int (nI rn), .ref (ad 3), .ref (ad 4), .ref (ad 5), .ref (ad 6), .ref (ad 7), .ref (ad 8), .ref (ad 9), .ref (ad 10), .ref (ad 11), .ref (ad 12), .ref (ad 13), .ref (ad 14), .ref (ad 15), .ref (ad 16), .ref (ad 17), .ref (ad 18), .ref (ad 19), .ref (ad 20), .ref (ad 21), .ref (ad 22), .ref (ad 23), .ref (ad 24), .ref (ad 25), .ref (ad 26), .ref (ad 27), .int (nI (mn + 5)), .ref (ad 29), .ref (ad 30), .ref (ad 31), .ref (ad 32), .ref (ad 33), .ref (ad 34), .ref (ad 35), .ref (ad 36), .ref (ad 37), .int (nI dp), .ref (ad 39), .ref (ad 40)])), (ad 29, aI E 256 f10)] H := hP
  have hD : va_D A [(m, .inr (9, [.int th, .int (nI kn), .int (nI rn), .ref (ad 3), .ref (ad 4), .ref (ad 5), .ref (ad 6), .ref (ad 7), .ref (ad 8), .ref (ad 9), .ref (ad 10), .ref (ad 11), .ref (ad 12), .ref (ad 13), .ref (ad 14), .ref (ad 15), .ref (ad 16), .ref (ad 17), .ref (ad 18), .ref (ad 19), .ref (ad 20), .ref (ad 21), .ref (ad 22), .ref (ad 23), .ref (ad 24), .ref (ad 25), .ref (ad 26), .ref (ad 27), .int (nI (mn + 5)), .ref (ad 29), .ref (ad 30), .ref (ad 31), .ref (ad 32), .ref (ad 33), .ref (ad 34), .ref (ad 35), .ref (ad 36), .ref (ad 37), .int (nI dp), .ref (ad 39), .ref (ad 40)])), (ad 29, aI E 256 f10)] := hD
  refine lv_iinc (v := 16) (lv' := [(4, .int 16), (0, .ref m), (1, .long v), (3, .int 8)]) hx hb dX8_put_42 hl (k := 0) rfl (by decide) (by decide) rfl (fun ls hl => ?_)
  refine lv_goto (tgt := 9) hx hb dX8_put_45 (by decide) ?_
  refine lv_iload hx hb dX8_put_9 (lv_at hl 0 rfl) ?_
  refine lv_if_lt (tgt := 48) hx hb dX8_put_11 (by decide) (fun c11 => absurd c11 (by decide)) (fun c11 => ?_)
  refine lv_aload_n hx hb dX8_put_14 rfl (lv_at hl 1 rfl) ?_
  refine va_get (D := E.1) (ci := 9) (v := .ref (ad 29)) (C := RX8) (T := TX8) (N := 41) hx hb hts hiX8 hown hev.1 hP 0 rfl rfl 29 (by decide) hf87 (fun _ h9 => h9) rfl dX8_put_15 ?_
  refine lv_aload_n hx hb dX8_put_18 rfl (lv_at hl 1 rfl) ?_
  refine va_get (D := E.1) (ci := 9) (v := .int (nI (mn + 5))) (C := RX8) (T := TX8) (N := 41) hx hb hts hiX8 hown hev.1 hP 0 rfl rfl 28 (by decide) hf206 (fun _ h9 => h9) rfl dX8_put_19 ?_
  refine lv_lload_n hx hb dX8_put_22 rfl (lv_at hl 2 rfl) ?_
  refine lv_iload hx hb dX8_put_23 (lv_at hl 0 rfl) ?_
  refine lv_lshr (v := v >>> ((16 : Int32).toInt64 &&& 63)) hx hb dX8_put_25 rfl ?_
  refine lv_ldc2 hx hb hown hk209 dX8_put_26 ?_
  refine lv_land hx hb dX8_put_29 ?_
  refine lv_l2i (v := ((v >>> ((16 : Int32).toInt64 &&& 63)) &&& 255).toInt32) hx hb dX8_put_30 rfl ?_
  refine xiast (k := mn + 5) hx hb hev.1 hP hD hS 1 1 rfl rfl (by omega) (by decide) dX8_put_31 (fun H locs hP hD hS => ?_)
  obtain ⟨f12, ef12⟩ : ∃ y9_ : Nat → Int32, y9_ = upd f10 (mn + 5) (((v >>> ((16 : Int32).toInt64 &&& 63)) &&& 255).toInt32) := ⟨_, rfl⟩
  rw [← ef12] at hP hD
  have hP : va_P E.1 vwCl [(m, .inr (9, [.int th, .int (nI kn), .int (nI rn), .ref (ad 3), .ref (ad 4), .ref (ad 5), .ref (ad 6), .ref (ad 7), .ref (ad 8), .ref (ad 9), .ref (ad 10), .ref (ad 11), .ref (ad 12), .ref (ad 13), .ref (ad 14), .ref (ad 15), .ref (ad 16), .ref (ad 17), .ref (ad 18), .ref (ad 19), .ref (ad 20), .ref (ad 21), .ref (ad 22), .ref (ad 23), .ref (ad 24), .ref (ad 25), .ref (ad 26), .ref (ad 27), .int (nI (mn + 5)), .ref (ad 29), .ref (ad 30), .ref (ad 31), .ref (ad 32), .ref (ad 33), .ref (ad 34), .ref (ad 35), .ref (ad 36), .ref (ad 37), .int (nI dp), .ref (ad 39), .ref (ad 40)])), (ad 29, aI E 256 f12)] H := hP
  have hD : va_D A [(m, .inr (9, [.int th, .int (nI kn), .int (nI rn), .ref (ad 3), .ref (ad 4), .ref (ad 5), .ref (ad 6), .ref (ad 7), .ref (ad 8), .ref (ad 9), .ref (ad 10), .ref (ad 11), .ref (ad 12), .ref (ad 13), .ref (ad 14), .ref (ad 15), .ref (ad 16), .ref (ad 17), .ref (ad 18), .ref (ad 19), .ref (ad 20), .ref (ad 21), .ref (ad 22), .ref (ad 23), .ref (ad 24), .ref (ad 25), .ref (ad 26), .ref (ad 27), .int (nI (mn + 5)), .ref (ad 29), .ref (ad 30), .ref (ad 31), .ref (ad 32), .ref (ad 33), .ref (ad 34), .ref (ad 35), .ref (ad 36), .ref (ad 37), .int (nI dp), .ref (ad 39), .ref (ad 40)])), (ad 29, aI E 256 f12)] := hD
  refine lv_aload_n hx hb dX8_put_32 rfl (lv_at hl 1 rfl) ?_
  refine lv_dup hx hb dX8_put_33 rfl ?_
  refine va_get (D := E.1) (ci := 9) (v := .int (nI (mn + 5))) (C := RX8) (T := TX8) (N := 41) hx hb hts hiX8 hown hev.1 hP 0 rfl rfl 28 (by decide) hf206 (fun _ h9 => h9) rfl dX8_put_34 ?_
  refine lv_iconst (v := 1) hx hb dX8_put_37 (by decide) ?_
  refine lv_iadd hx hb dX8_put_38 ?_
  refine xtop (y := nI (mn + 6)) ((nI_add (mn + 5) 1).trans (congrArg nI (by omega))) ?_
  refine va_put (D := E.1) (ci := 9) (v := .int (nI (mn + 6))) (ty := tyX8 28) (C := RX8) (T := TX8) (N := 41) hx hb hts hiX8 tyX8 tyX8_ok nmX8 hown hev.1 hP hD hS 0 rfl rfl 28 (by decide) hf206 (fun _ h9 => h9) rfl (tyX8_ok 28 (by decide)) rfl rfl (Nat.le_of_ble_eq_true rfl) dX8_put_39 (fun H locs hP hD hS => ?_)
  have hP : va_P E.1 vwCl [(m, .inr (9, [.int th, .int (nI kn), .int (nI rn), .ref (ad 3), .ref (ad 4), .ref (ad 5), .ref (ad 6), .ref (ad 7), .ref (ad 8), .ref (ad 9), .ref (ad 10), .ref (ad 11), .ref (ad 12), .ref (ad 13), .ref (ad 14), .ref (ad 15), .ref (ad 16), .ref (ad 17), .ref (ad 18), .ref (ad 19), .ref (ad 20), .ref (ad 21), .ref (ad 22), .ref (ad 23), .ref (ad 24), .ref (ad 25), .ref (ad 26), .ref (ad 27), .int (nI (mn + 6)), .ref (ad 29), .ref (ad 30), .ref (ad 31), .ref (ad 32), .ref (ad 33), .ref (ad 34), .ref (ad 35), .ref (ad 36), .ref (ad 37), .int (nI dp), .ref (ad 39), .ref (ad 40)])), (ad 29, aI E 256 f12)] H := hP
  have hD : va_D A [(m, .inr (9, [.int th, .int (nI kn), .int (nI rn), .ref (ad 3), .ref (ad 4), .ref (ad 5), .ref (ad 6), .ref (ad 7), .ref (ad 8), .ref (ad 9), .ref (ad 10), .ref (ad 11), .ref (ad 12), .ref (ad 13), .ref (ad 14), .ref (ad 15), .ref (ad 16), .ref (ad 17), .ref (ad 18), .ref (ad 19), .ref (ad 20), .ref (ad 21), .ref (ad 22), .ref (ad 23), .ref (ad 24), .ref (ad 25), .ref (ad 26), .ref (ad 27), .int (nI (mn + 6)), .ref (ad 29), .ref (ad 30), .ref (ad 31), .ref (ad 32), .ref (ad 33), .ref (ad 34), .ref (ad 35), .ref (ad 36), .ref (ad 37), .int (nI dp), .ref (ad 39), .ref (ad 40)])), (ad 29, aI E 256 f12)] := hD
  refine lv_iinc (v := 8) (lv' := [(4, .int 8), (0, .ref m), (1, .long v), (3, .int 8)]) hx hb dX8_put_42 hl (k := 0) rfl (by decide) (by decide) rfl (fun ls hl => ?_)
  refine lv_goto (tgt := 9) hx hb dX8_put_45 (by decide) ?_
  refine lv_iload hx hb dX8_put_9 (lv_at hl 0 rfl) ?_
  refine lv_if_lt (tgt := 48) hx hb dX8_put_11 (by decide) (fun c13 => absurd c13 (by decide)) (fun c13 => ?_)
  refine lv_aload_n hx hb dX8_put_14 rfl (lv_at hl 1 rfl) ?_
  refine va_get (D := E.1) (ci := 9) (v := .ref (ad 29)) (C := RX8) (T := TX8) (N := 41) hx hb hts hiX8 hown hev.1 hP 0 rfl rfl 29 (by decide) hf87 (fun _ h9 => h9) rfl dX8_put_15 ?_
  refine lv_aload_n hx hb dX8_put_18 rfl (lv_at hl 1 rfl) ?_
  refine va_get (D := E.1) (ci := 9) (v := .int (nI (mn + 6))) (C := RX8) (T := TX8) (N := 41) hx hb hts hiX8 hown hev.1 hP 0 rfl rfl 28 (by decide) hf206 (fun _ h9 => h9) rfl dX8_put_19 ?_
  refine lv_lload_n hx hb dX8_put_22 rfl (lv_at hl 2 rfl) ?_
  refine lv_iload hx hb dX8_put_23 (lv_at hl 0 rfl) ?_
  refine lv_lshr (v := v >>> ((8 : Int32).toInt64 &&& 63)) hx hb dX8_put_25 rfl ?_
  refine lv_ldc2 hx hb hown hk209 dX8_put_26 ?_
  refine lv_land hx hb dX8_put_29 ?_
  refine lv_l2i (v := ((v >>> ((8 : Int32).toInt64 &&& 63)) &&& 255).toInt32) hx hb dX8_put_30 rfl ?_
  refine xiast (k := mn + 6) hx hb hev.1 hP hD hS 1 1 rfl rfl (by omega) (by decide) dX8_put_31 (fun H locs hP hD hS => ?_)
  obtain ⟨f14, ef14⟩ : ∃ y9_ : Nat → Int32, y9_ = upd f12 (mn + 6) (((v >>> ((8 : Int32).toInt64 &&& 63)) &&& 255).toInt32) := ⟨_, rfl⟩
  rw [← ef14] at hP hD
  have hP : va_P E.1 vwCl [(m, .inr (9, [.int th, .int (nI kn), .int (nI rn), .ref (ad 3), .ref (ad 4), .ref (ad 5), .ref (ad 6), .ref (ad 7), .ref (ad 8), .ref (ad 9), .ref (ad 10), .ref (ad 11), .ref (ad 12), .ref (ad 13), .ref (ad 14), .ref (ad 15), .ref (ad 16), .ref (ad 17), .ref (ad 18), .ref (ad 19), .ref (ad 20), .ref (ad 21), .ref (ad 22), .ref (ad 23), .ref (ad 24), .ref (ad 25), .ref (ad 26), .ref (ad 27), .int (nI (mn + 6)), .ref (ad 29), .ref (ad 30), .ref (ad 31), .ref (ad 32), .ref (ad 33), .ref (ad 34), .ref (ad 35), .ref (ad 36), .ref (ad 37), .int (nI dp), .ref (ad 39), .ref (ad 40)])), (ad 29, aI E 256 f14)] H := hP
  have hD : va_D A [(m, .inr (9, [.int th, .int (nI kn), .int (nI rn), .ref (ad 3), .ref (ad 4), .ref (ad 5), .ref (ad 6), .ref (ad 7), .ref (ad 8), .ref (ad 9), .ref (ad 10), .ref (ad 11), .ref (ad 12), .ref (ad 13), .ref (ad 14), .ref (ad 15), .ref (ad 16), .ref (ad 17), .ref (ad 18), .ref (ad 19), .ref (ad 20), .ref (ad 21), .ref (ad 22), .ref (ad 23), .ref (ad 24), .ref (ad 25), .ref (ad 26), .ref (ad 27), .int (nI (mn + 6)), .ref (ad 29), .ref (ad 30), .ref (ad 31), .ref (ad 32), .ref (ad 33), .ref (ad 34), .ref (ad 35), .ref (ad 36), .ref (ad 37), .int (nI dp), .ref (ad 39), .ref (ad 40)])), (ad 29, aI E 256 f14)] := hD
  refine lv_aload_n hx hb dX8_put_32 rfl (lv_at hl 1 rfl) ?_
  refine lv_dup hx hb dX8_put_33 rfl ?_
  refine va_get (D := E.1) (ci := 9) (v := .int (nI (mn + 6))) (C := RX8) (T := TX8) (N := 41) hx hb hts hiX8 hown hev.1 hP 0 rfl rfl 28 (by decide) hf206 (fun _ h9 => h9) rfl dX8_put_34 ?_
  refine lv_iconst (v := 1) hx hb dX8_put_37 (by decide) ?_
  refine lv_iadd hx hb dX8_put_38 ?_
  refine xtop (y := nI (mn + 7)) ((nI_add (mn + 6) 1).trans (congrArg nI (by omega))) ?_
  refine va_put (D := E.1) (ci := 9) (v := .int (nI (mn + 7))) (ty := tyX8 28) (C := RX8) (T := TX8) (N := 41) hx hb hts hiX8 tyX8 tyX8_ok nmX8 hown hev.1 hP hD hS 0 rfl rfl 28 (by decide) hf206 (fun _ h9 => h9) rfl (tyX8_ok 28 (by decide)) rfl rfl (Nat.le_of_ble_eq_true rfl) dX8_put_39 (fun H locs hP hD hS => ?_)
  have hP : va_P E.1 vwCl [(m, .inr (9, [.int th, .int (nI kn), .int (nI rn), .ref (ad 3), .ref (ad 4), .ref (ad 5), .ref (ad 6), .ref (ad 7), .ref (ad 8), .ref (ad 9), .ref (ad 10), .ref (ad 11), .ref (ad 12), .ref (ad 13), .ref (ad 14), .ref (ad 15), .ref (ad 16), .ref (ad 17), .ref (ad 18), .ref (ad 19), .ref (ad 20), .ref (ad 21), .ref (ad 22), .ref (ad 23), .ref (ad 24), .ref (ad 25), .ref (ad 26), .ref (ad 27), .int (nI (mn + 7)), .ref (ad 29), .ref (ad 30), .ref (ad 31), .ref (ad 32), .ref (ad 33), .ref (ad 34), .ref (ad 35), .ref (ad 36), .ref (ad 37), .int (nI dp), .ref (ad 39), .ref (ad 40)])), (ad 29, aI E 256 f14)] H := hP
  have hD : va_D A [(m, .inr (9, [.int th, .int (nI kn), .int (nI rn), .ref (ad 3), .ref (ad 4), .ref (ad 5), .ref (ad 6), .ref (ad 7), .ref (ad 8), .ref (ad 9), .ref (ad 10), .ref (ad 11), .ref (ad 12), .ref (ad 13), .ref (ad 14), .ref (ad 15), .ref (ad 16), .ref (ad 17), .ref (ad 18), .ref (ad 19), .ref (ad 20), .ref (ad 21), .ref (ad 22), .ref (ad 23), .ref (ad 24), .ref (ad 25), .ref (ad 26), .ref (ad 27), .int (nI (mn + 7)), .ref (ad 29), .ref (ad 30), .ref (ad 31), .ref (ad 32), .ref (ad 33), .ref (ad 34), .ref (ad 35), .ref (ad 36), .ref (ad 37), .int (nI dp), .ref (ad 39), .ref (ad 40)])), (ad 29, aI E 256 f14)] := hD
  refine lv_iinc (v := 0) (lv' := [(4, .int 0), (0, .ref m), (1, .long v), (3, .int 8)]) hx hb dX8_put_42 hl (k := 0) rfl (by decide) (by decide) rfl (fun ls hl => ?_)
  refine lv_goto (tgt := 9) hx hb dX8_put_45 (by decide) ?_
  refine lv_iload hx hb dX8_put_9 (lv_at hl 0 rfl) ?_
  refine lv_if_lt (tgt := 48) hx hb dX8_put_11 (by decide) (fun c15 => absurd c15 (by decide)) (fun c15 => ?_)
  refine lv_aload_n hx hb dX8_put_14 rfl (lv_at hl 1 rfl) ?_
  refine va_get (D := E.1) (ci := 9) (v := .ref (ad 29)) (C := RX8) (T := TX8) (N := 41) hx hb hts hiX8 hown hev.1 hP 0 rfl rfl 29 (by decide) hf87 (fun _ h9 => h9) rfl dX8_put_15 ?_
  refine lv_aload_n hx hb dX8_put_18 rfl (lv_at hl 1 rfl) ?_
  refine va_get (D := E.1) (ci := 9) (v := .int (nI (mn + 7))) (C := RX8) (T := TX8) (N := 41) hx hb hts hiX8 hown hev.1 hP 0 rfl rfl 28 (by decide) hf206 (fun _ h9 => h9) rfl dX8_put_19 ?_
  refine lv_lload_n hx hb dX8_put_22 rfl (lv_at hl 2 rfl) ?_
  refine lv_iload hx hb dX8_put_23 (lv_at hl 0 rfl) ?_
  refine lv_lshr (v := v >>> ((0 : Int32).toInt64 &&& 63)) hx hb dX8_put_25 rfl ?_
  refine lv_ldc2 hx hb hown hk209 dX8_put_26 ?_
  refine lv_land hx hb dX8_put_29 ?_
  refine lv_l2i (v := ((v >>> ((0 : Int32).toInt64 &&& 63)) &&& 255).toInt32) hx hb dX8_put_30 rfl ?_
  refine xiast (k := mn + 7) hx hb hev.1 hP hD hS 1 1 rfl rfl (by omega) (by decide) dX8_put_31 (fun H locs hP hD hS => ?_)
  obtain ⟨f16, ef16⟩ : ∃ y9_ : Nat → Int32, y9_ = upd f14 (mn + 7) (((v >>> ((0 : Int32).toInt64 &&& 63)) &&& 255).toInt32) := ⟨_, rfl⟩
  rw [← ef16] at hP hD
  have hP : va_P E.1 vwCl [(m, .inr (9, [.int th, .int (nI kn), .int (nI rn), .ref (ad 3), .ref (ad 4), .ref (ad 5), .ref (ad 6), .ref (ad 7), .ref (ad 8), .ref (ad 9), .ref (ad 10), .ref (ad 11), .ref (ad 12), .ref (ad 13), .ref (ad 14), .ref (ad 15), .ref (ad 16), .ref (ad 17), .ref (ad 18), .ref (ad 19), .ref (ad 20), .ref (ad 21), .ref (ad 22), .ref (ad 23), .ref (ad 24), .ref (ad 25), .ref (ad 26), .ref (ad 27), .int (nI (mn + 7)), .ref (ad 29), .ref (ad 30), .ref (ad 31), .ref (ad 32), .ref (ad 33), .ref (ad 34), .ref (ad 35), .ref (ad 36), .ref (ad 37), .int (nI dp), .ref (ad 39), .ref (ad 40)])), (ad 29, aI E 256 f16)] H := hP
  have hD : va_D A [(m, .inr (9, [.int th, .int (nI kn), .int (nI rn), .ref (ad 3), .ref (ad 4), .ref (ad 5), .ref (ad 6), .ref (ad 7), .ref (ad 8), .ref (ad 9), .ref (ad 10), .ref (ad 11), .ref (ad 12), .ref (ad 13), .ref (ad 14), .ref (ad 15), .ref (ad 16), .ref (ad 17), .ref (ad 18), .ref (ad 19), .ref (ad 20), .ref (ad 21), .ref (ad 22), .ref (ad 23), .ref (ad 24), .ref (ad 25), .ref (ad 26), .ref (ad 27), .int (nI (mn + 7)), .ref (ad 29), .ref (ad 30), .ref (ad 31), .ref (ad 32), .ref (ad 33), .ref (ad 34), .ref (ad 35), .ref (ad 36), .ref (ad 37), .int (nI dp), .ref (ad 39), .ref (ad 40)])), (ad 29, aI E 256 f16)] := hD
  refine lv_aload_n hx hb dX8_put_32 rfl (lv_at hl 1 rfl) ?_
  refine lv_dup hx hb dX8_put_33 rfl ?_
  refine va_get (D := E.1) (ci := 9) (v := .int (nI (mn + 7))) (C := RX8) (T := TX8) (N := 41) hx hb hts hiX8 hown hev.1 hP 0 rfl rfl 28 (by decide) hf206 (fun _ h9 => h9) rfl dX8_put_34 ?_
  refine lv_iconst (v := 1) hx hb dX8_put_37 (by decide) ?_
  refine lv_iadd hx hb dX8_put_38 ?_
  refine xtop (y := nI (mn + 8)) ((nI_add (mn + 7) 1).trans (congrArg nI (by omega))) ?_
  refine va_put (D := E.1) (ci := 9) (v := .int (nI (mn + 8))) (ty := tyX8 28) (C := RX8) (T := TX8) (N := 41) hx hb hts hiX8 tyX8 tyX8_ok nmX8 hown hev.1 hP hD hS 0 rfl rfl 28 (by decide) hf206 (fun _ h9 => h9) rfl (tyX8_ok 28 (by decide)) rfl rfl (Nat.le_of_ble_eq_true rfl) dX8_put_39 (fun H locs hP hD hS => ?_)
  have hP : va_P E.1 vwCl [(m, .inr (9, [.int th, .int (nI kn), .int (nI rn), .ref (ad 3), .ref (ad 4), .ref (ad 5), .ref (ad 6), .ref (ad 7), .ref (ad 8), .ref (ad 9), .ref (ad 10), .ref (ad 11), .ref (ad 12), .ref (ad 13), .ref (ad 14), .ref (ad 15), .ref (ad 16), .ref (ad 17), .ref (ad 18), .ref (ad 19), .ref (ad 20), .ref (ad 21), .ref (ad 22), .ref (ad 23), .ref (ad 24), .ref (ad 25), .ref (ad 26), .ref (ad 27), .int (nI (mn + 8)), .ref (ad 29), .ref (ad 30), .ref (ad 31), .ref (ad 32), .ref (ad 33), .ref (ad 34), .ref (ad 35), .ref (ad 36), .ref (ad 37), .int (nI dp), .ref (ad 39), .ref (ad 40)])), (ad 29, aI E 256 f16)] H := hP
  have hD : va_D A [(m, .inr (9, [.int th, .int (nI kn), .int (nI rn), .ref (ad 3), .ref (ad 4), .ref (ad 5), .ref (ad 6), .ref (ad 7), .ref (ad 8), .ref (ad 9), .ref (ad 10), .ref (ad 11), .ref (ad 12), .ref (ad 13), .ref (ad 14), .ref (ad 15), .ref (ad 16), .ref (ad 17), .ref (ad 18), .ref (ad 19), .ref (ad 20), .ref (ad 21), .ref (ad 22), .ref (ad 23), .ref (ad 24), .ref (ad 25), .ref (ad 26), .ref (ad 27), .int (nI (mn + 8)), .ref (ad 29), .ref (ad 30), .ref (ad 31), .ref (ad 32), .ref (ad 33), .ref (ad 34), .ref (ad 35), .ref (ad 36), .ref (ad 37), .int (nI dp), .ref (ad 39), .ref (ad 40)])), (ad 29, aI E 256 f16)] := hD
  refine lv_iinc (v := (-8)) (lv' := [(4, .int (-8)), (0, .ref m), (1, .long v), (3, .int 8)]) hx hb dX8_put_42 hl (k := 0) rfl (by decide) (by decide) rfl (fun ls hl => ?_)
  refine lv_goto (tgt := 9) hx hb dX8_put_45 (by decide) ?_
  refine lv_iload hx hb dX8_put_9 (lv_at hl 0 rfl) ?_
  refine lv_if_lt (tgt := 48) hx hb dX8_put_11 (by decide) (fun c17 => ?_) (fun c17 => absurd (by decide) c17)
  refine xrv hx hb hr hlocks hP hD hS ⟨f16, rfl, ?_⟩ dX8_put_48
  subst_vars
  simp only [ap, uB8, ub, Nat.add_assoc, Nat.reduceAdd]

abbrev pX8_later (E : xE) (m : Nat) (ad : Nat → Nat) (th : Int32) (kn : Nat) (rn : Nat) (mn : Nat) (dp : Nat) (a34 : Nat → Int32) (t : Nat) (r : Int32) (w : va_W) : Prop := w = [] ∧ r = ltr a34 t ∧ (True)
set_option maxHeartbeats 4000000 in
set_option maxRecDepth 100000 in
theorem kX8_later (l : Launch) (E : xE) (m : Nat) (ad : Nat → Nat) (th : Int32) (kn : Nat) (rn : Nat) (mn : Nat) (dp : Nat) (a34 : Nat → Int32) (t : Nat) (ht : t < 64) : KT l yX8_later wsX8_later 1 21 0 0 E [] [(m, .inr (9, [.int th, .int (nI kn), .int (nI rn), .ref (ad 3), .ref (ad 4), .ref (ad 5), .ref (ad 6), .ref (ad 7), .ref (ad 8), .ref (ad 9), .ref (ad 10), .ref (ad 11), .ref (ad 12), .ref (ad 13), .ref (ad 14), .ref (ad 15), .ref (ad 16), .ref (ad 17), .ref (ad 18), .ref (ad 19), .ref (ad 20), .ref (ad 21), .ref (ad 22), .ref (ad 23), .ref (ad 24), .ref (ad 25), .ref (ad 26), .ref (ad 27), .int (nI mn), .ref (ad 29), .ref (ad 30), .ref (ad 31), .ref (ad 32), .ref (ad 33), .ref (ad 34), .ref (ad 35), .ref (ad 36), .ref (ad 37), .int (nI dp), .ref (ad 39), .ref (ad 40)])), (ad 34, aI E 16 a34)] [.ref m, .int (nI t)] (QI E (pX8_later E m ad th kn rn mn dp a34 t)) := by
  refine KT.start (cc := cX8_later) (maxL := 4) (ret := (some .int)) (by decide) rfl (Nat.le_of_ble_eq_true rfl) ?_
  intro p e s m below meth c A H hx hb hr hlocks hml hts hown hin hP hR0 hD hap hev hz hA hS ls hl
  have hl : lv_has ls 4 [(0, .ref m), (1, .int (nI t))] := hl
  have hiX8 : ∀ w ∈ wsX80, w ∈ wsX8_later := by decide +kernel
  have hf174 := hts (.fieldLink RX8 174 "SignQuorumModel" "word" "[I") (by decide +kernel)
  refine lv_aload_n hx hb dX8_later_0 rfl (lv_at hl 0 rfl) ?_
  refine va_get (D := E.1) (ci := 9) (v := .ref (ad 34)) (C := RX8) (T := TX8) (N := 41) hx hb hts hiX8 hown hev.1 (xro hR0 hap hS) 0 rfl rfl 34 (by decide) hf174 (fun _ h9 => h9) rfl dX8_later_1 ?_
  refine lv_iload_n hx hb dX8_later_4 rfl (lv_at hl 1 rfl) ?_
  refine lv_iconst (v := 1) hx hb dX8_later_5 (by decide) ?_
  refine lv_iadd hx hb dX8_later_6 ?_
  refine xtop (y := nI (t + 1)) ((nI_add t 1).trans (congrArg nI (by omega))) ?_
  refine lv_bipush (v := 15) hx hb dX8_later_7 (by decide) ?_
  refine lv_iand hx hb dX8_later_9 ?_
  refine xtop (y := nI ((t + 1) % 16)) (pk_andN (n := (t + 1)) (by omega) 4 (by decide)) ?_
  refine xiald (k := ((t + 1) % 16)) hx hb hev.1 (xro hR0 hap hS) 1 1 rfl rfl (by omega) (by decide) dX8_later_10 ?_
  refine lv_istore_n (lv' := [(2, .int (a34 ((t + 1) % 16))), (0, .ref m), (1, .int (nI t))]) hx hb dX8_later_11 rfl hl (by decide) rfl (fun ls hl => ?_)
  refine lv_aload_n hx hb dX8_later_12 rfl (lv_at hl 1 rfl) ?_
  refine va_get (D := E.1) (ci := 9) (v := .ref (ad 34)) (C := RX8) (T := TX8) (N := 41) hx hb hts hiX8 hown hev.1 (xro hR0 hap hS) 0 rfl rfl 34 (by decide) hf174 (fun _ h9 => h9) rfl dX8_later_13 ?_
  refine lv_iload_n hx hb dX8_later_16 rfl (lv_at hl 2 rfl) ?_
  refine lv_bipush (v := 14) hx hb dX8_later_17 (by decide) ?_
  refine lv_iadd hx hb dX8_later_19 ?_
  refine xtop (y := nI (t + 14)) ((nI_add t 14).trans (congrArg nI (by omega))) ?_
  refine lv_bipush (v := 15) hx hb dX8_later_20 (by decide) ?_
  refine lv_iand hx hb dX8_later_22 ?_
  refine xtop (y := nI ((t + 14) % 16)) (pk_andN (n := (t + 14)) (by omega) 4 (by decide)) ?_
  refine xiald (k := ((t + 14) % 16)) hx hb hev.1 (xro hR0 hap hS) 1 1 rfl rfl (by omega) (by decide) dX8_later_23 ?_
  refine lv_istore_n (lv' := [(3, .int (a34 ((t + 14) % 16))), (2, .int (a34 ((t + 1) % 16))), (0, .ref m), (1, .int (nI t))]) hx hb dX8_later_24 rfl hl (by decide) rfl (fun ls hl => ?_)
  refine lv_aload_n hx hb dX8_later_25 rfl (lv_at hl 2 rfl) ?_
  refine va_get (D := E.1) (ci := 9) (v := .ref (ad 34)) (C := RX8) (T := TX8) (N := 41) hx hb hts hiX8 hown hev.1 (xro hR0 hap hS) 0 rfl rfl 34 (by decide) hf174 (fun _ h9 => h9) rfl dX8_later_26 ?_
  refine lv_iload_n hx hb dX8_later_29 rfl (lv_at hl 3 rfl) ?_
  refine lv_bipush (v := 15) hx hb dX8_later_30 (by decide) ?_
  refine lv_iand hx hb dX8_later_32 ?_
  refine xtop (y := nI (t % 16)) (pk_andN (n := t) (by omega) 4 (by decide)) ?_
  refine xiald (k := (t % 16)) hx hb hev.1 (xro hR0 hap hS) 1 1 rfl rfl (by omega) (by decide) dX8_later_33 ?_
  refine lv_aload_n hx hb dX8_later_34 rfl (lv_at hl 2 rfl) ?_
  refine va_get (D := E.1) (ci := 9) (v := .ref (ad 34)) (C := RX8) (T := TX8) (N := 41) hx hb hts hiX8 hown hev.1 (xro hR0 hap hS) 0 rfl rfl 34 (by decide) hf174 (fun _ h9 => h9) rfl dX8_later_35 ?_
  refine lv_iload_n hx hb dX8_later_38 rfl (lv_at hl 3 rfl) ?_
  refine lv_bipush (v := 9) hx hb dX8_later_39 (by decide) ?_
  refine lv_iadd hx hb dX8_later_41 ?_
  refine xtop (y := nI (t + 9)) ((nI_add t 9).trans (congrArg nI (by omega))) ?_
  refine lv_bipush (v := 15) hx hb dX8_later_42 (by decide) ?_
  refine lv_iand hx hb dX8_later_44 ?_
  refine xtop (y := nI ((t + 9) % 16)) (pk_andN (n := (t + 9)) (by omega) 4 (by decide)) ?_
  refine xiald (k := ((t + 9) % 16)) hx hb hev.1 (xro hR0 hap hS) 1 1 rfl rfl (by omega) (by decide) dX8_later_45 ?_
  refine lv_iadd hx hb dX8_later_46 ?_
  refine lv_iload_n hx hb dX8_later_47 rfl (lv_at hl 1 rfl) ?_
  refine lv_bipush (v := 7) hx hb dX8_later_48 (by decide) ?_
  have hP := hP.sub (ws' := [] ++ []) [] rfl
  have hD := hD.sub (ws' := [] ++ []) [] (by decide) rfl
  refine xci (va_runS (As := [.int (a34 ((t + 1) % 16)), .int 7]) (rest := [.int ((a34 (t % 16)) + (a34 ((t + 9) % 16)))]) ⟨hx, hb, hml, hown, hts⟩ (kX8_turned l E (a34 ((t + 1) % 16)) 7  H.size) (va_cwS 2 hts gX8_later_X8_turned rfl rfl rfl (by decide +kernel) ⟨Nat.le_of_ble_eq_true rfl, Nat.le_of_ble_eq_true rfl⟩) ⟨CP.blind, (xpre hev hz hA hP hD hS hR0 hap [] rfl)⟩ rfl rfl hl.1 rfl (lv_room (Nat.le_of_ble_eq_true rfl)) dX8_later_50 ⟨Nat.le_of_ble_eq_true rfl, Nat.le_of_ble_eq_true rfl⟩) hP hD hS hA (fun r1 w2 H locs h3 hP hD hS => ?_)
  obtain ⟨rfl, rfl, h3⟩ := h3
  try dsimp only at h3
  have hP : va_P E.1 vwCl [] H := hP
  have hD : va_D A [] := hD
  refine lv_iload_n hx hb dX8_later_53 rfl (lv_at hl 1 rfl) ?_
  refine lv_bipush (v := 18) hx hb dX8_later_54 (by decide) ?_
  have hP := hP.sub (ws' := [] ++ []) [] rfl
  have hD := hD.sub (ws' := [] ++ []) [] (by decide) rfl
  refine xci (va_runS (As := [.int (a34 ((t + 1) % 16)), .int 18]) (rest := [.int (turn (a34 ((t + 1) % 16)) 7), .int ((a34 (t % 16)) + (a34 ((t + 9) % 16)))]) ⟨hx, hb, hml, hown, hts⟩ (kX8_turned l E (a34 ((t + 1) % 16)) 18  H.size) (va_cwS 2 hts gX8_later_X8_turned rfl rfl rfl (by decide +kernel) ⟨Nat.le_of_ble_eq_true rfl, Nat.le_of_ble_eq_true rfl⟩) ⟨CP.blind, (xpre hev hz hA hP hD hS hR0 hap [] rfl)⟩ rfl rfl hl.1 rfl (lv_room (Nat.le_of_ble_eq_true rfl)) dX8_later_56 ⟨Nat.le_of_ble_eq_true rfl, Nat.le_of_ble_eq_true rfl⟩) hP hD hS hA (fun r4 w5 H locs h6 hP hD hS => ?_)
  obtain ⟨rfl, rfl, h6⟩ := h6
  try dsimp only at h6
  have hP : va_P E.1 vwCl [] H := hP
  have hD : va_D A [] := hD
  refine lv_ixor hx hb dX8_later_59 ?_
  refine lv_iload_n hx hb dX8_later_60 rfl (lv_at hl 1 rfl) ?_
  refine lv_iconst (v := 3) hx hb dX8_later_61 (by decide) ?_
  refine lv_iushr (v := ((a34 ((t + 1) % 16)).toUInt32 >>> ((3 : Int32).toUInt32 &&& Int32.toUInt32 31)).toInt32) hx hb dX8_later_62 rfl ?_
  refine lv_ixor hx hb dX8_later_63 ?_
  refine lv_topi (fun v7 ev7 => ?_)
  refine lv_iadd hx hb dX8_later_64 ?_
  refine lv_iload_n hx hb dX8_later_65 rfl (lv_at hl 0 rfl) ?_
  refine lv_bipush (v := 17) hx hb dX8_later_66 (by decide) ?_
  have hP := hP.sub (ws' := [] ++ []) [] rfl
  have hD := hD.sub (ws' := [] ++ []) [] (by decide) rfl
  refine xci (va_runS (As := [.int (a34 ((t + 14) % 16)), .int 17]) (rest := [.int (((a34 (t % 16)) + (a34 ((t + 9) % 16))) + v7)]) ⟨hx, hb, hml, hown, hts⟩ (kX8_turned l E (a34 ((t + 14) % 16)) 17  H.size) (va_cwS 2 hts gX8_later_X8_turned rfl rfl rfl (by decide +kernel) ⟨Nat.le_of_ble_eq_true rfl, Nat.le_of_ble_eq_true rfl⟩) ⟨CP.blind, (xpre hev hz hA hP hD hS hR0 hap [] rfl)⟩ rfl rfl hl.1 rfl (lv_room (Nat.le_of_ble_eq_true rfl)) dX8_later_68 ⟨Nat.le_of_ble_eq_true rfl, Nat.le_of_ble_eq_true rfl⟩) hP hD hS hA (fun r8 w9 H locs h10 hP hD hS => ?_)
  obtain ⟨rfl, rfl, h10⟩ := h10
  try dsimp only at h10
  have hP : va_P E.1 vwCl [] H := hP
  have hD : va_D A [] := hD
  refine lv_iload_n hx hb dX8_later_71 rfl (lv_at hl 0 rfl) ?_
  refine lv_bipush (v := 19) hx hb dX8_later_72 (by decide) ?_
  have hP := hP.sub (ws' := [] ++ []) [] rfl
  have hD := hD.sub (ws' := [] ++ []) [] (by decide) rfl
  refine xci (va_runS (As := [.int (a34 ((t + 14) % 16)), .int 19]) (rest := [.int (turn (a34 ((t + 14) % 16)) 17), .int (((a34 (t % 16)) + (a34 ((t + 9) % 16))) + v7)]) ⟨hx, hb, hml, hown, hts⟩ (kX8_turned l E (a34 ((t + 14) % 16)) 19  H.size) (va_cwS 2 hts gX8_later_X8_turned rfl rfl rfl (by decide +kernel) ⟨Nat.le_of_ble_eq_true rfl, Nat.le_of_ble_eq_true rfl⟩) ⟨CP.blind, (xpre hev hz hA hP hD hS hR0 hap [] rfl)⟩ rfl rfl hl.1 rfl (lv_room (Nat.le_of_ble_eq_true rfl)) dX8_later_74 ⟨Nat.le_of_ble_eq_true rfl, Nat.le_of_ble_eq_true rfl⟩) hP hD hS hA (fun r11 w12 H locs h13 hP hD hS => ?_)
  obtain ⟨rfl, rfl, h13⟩ := h13
  try dsimp only at h13
  have hP : va_P E.1 vwCl [] H := hP
  have hD : va_D A [] := hD
  refine lv_ixor hx hb dX8_later_77 ?_
  refine lv_iload_n hx hb dX8_later_78 rfl (lv_at hl 0 rfl) ?_
  refine lv_bipush (v := 10) hx hb dX8_later_79 (by decide) ?_
  refine lv_iushr (v := ((a34 ((t + 14) % 16)).toUInt32 >>> ((10 : Int32).toUInt32 &&& Int32.toUInt32 31)).toInt32) hx hb dX8_later_81 rfl ?_
  refine lv_ixor hx hb dX8_later_82 ?_
  refine lv_topi (fun v14 ev14 => ?_)
  refine lv_iadd hx hb dX8_later_83 ?_
  refine xri hx hb hr hlocks hP hD hS ⟨rfl, ?_, ?_⟩ dX8_later_84
  · first | rfl | (subst_vars; rfl)
  · trivial

abbrev pX8_step (E : xE) (m : Nat) (ad : Nat → Nat) (th : Int32) (kn : Nat) (rn : Nat) (mn : Nat) (dp : Nat) (a33 : Nat → Int32) (a34 : Nat → Int32) (a35 : Nat → Int32) (t : Nat) (w : va_W) : Prop := ∃ (g34 : Nat → Int32) (g35 : Nat → Int32), w = [(ad 34, aI E 16 g34), (ad 35, aI E 8 g35)] ∧ (g35 = upd (upd a35 ((64 - t + 3) % 8) (a35 ((64 - t + 3) % 8) + mone a35 a34 (a33 t) t)) ((64 - t + 7) % 8) (mone a35 a34 (a33 t) t + mtwo a35 t) ∧ g34 = upd a34 (t % 16) (ltr a34 t))
set_option maxHeartbeats 8000000 in
set_option maxRecDepth 100000 in
theorem kX8_step (l : Launch) (E : xE) (m : Nat) (ad : Nat → Nat) (th : Int32) (kn : Nat) (rn : Nat) (mn : Nat) (dp : Nat) (a33 : Nat → Int32) (a34 : Nat → Int32) (a35 : Nat → Int32) (t : Nat) (ht : t < 64) : KT l yX8_step wsX8_step 2 44 0 0 E [(ad 34, aI E 16 a34), (ad 35, aI E 8 a35)] [(m, .inr (9, [.int th, .int (nI kn), .int (nI rn), .ref (ad 3), .ref (ad 4), .ref (ad 5), .ref (ad 6), .ref (ad 7), .ref (ad 8), .ref (ad 9), .ref (ad 10), .ref (ad 11), .ref (ad 12), .ref (ad 13), .ref (ad 14), .ref (ad 15), .ref (ad 16), .ref (ad 17), .ref (ad 18), .ref (ad 19), .ref (ad 20), .ref (ad 21), .ref (ad 22), .ref (ad 23), .ref (ad 24), .ref (ad 25), .ref (ad 26), .ref (ad 27), .int (nI mn), .ref (ad 29), .ref (ad 30), .ref (ad 31), .ref (ad 32), .ref (ad 33), .ref (ad 34), .ref (ad 35), .ref (ad 36), .ref (ad 37), .int (nI dp), .ref (ad 39), .ref (ad 40)])), (ad 33, aI E 64 a33)] [.ref m, .int (nI t)] (QV E (pX8_step E m ad th kn rn mn dp a33 a34 a35 t)) := by
  refine KT.start (cc := cX8_step) (maxL := 11) (ret := none) (by decide) rfl (Nat.le_of_ble_eq_true rfl) ?_
  intro p e s m below meth c A H hx hb hr hlocks hml hts hown hin hP hR0 hD hap hev hz hA hS ls hl
  have hl : lv_has ls 11 [(0, .ref m), (1, .int (nI t))] := hl
  have hiX8 : ∀ w ∈ wsX80, w ∈ wsX8_step := by decide +kernel
  have hf171 := hts (.fieldLink RX8 171 "SignQuorumModel" "steps" "[I") (by decide +kernel)
  have hf174 := hts (.fieldLink RX8 174 "SignQuorumModel" "word" "[I") (by decide +kernel)
  have hf177 := hts (.fieldLink RX8 177 "SignQuorumModel" "state" "[I") (by decide +kernel)
  refine lv_bipush (v := 64) hx hb dX8_step_0 (by decide) ?_
  refine lv_iload_n hx hb dX8_step_2 rfl (lv_at hl 1 rfl) ?_
  refine lv_isub hx hb dX8_step_3 ?_
  refine xtop (y := nI (64 - t)) (pk_sub (a := 64) (b := t) (by omega)) ?_
  refine lv_istore_n (lv' := [(2, .int (nI (64 - t))), (0, .ref m), (1, .int (nI t))]) hx hb dX8_step_4 rfl hl (by decide) rfl (fun ls hl => ?_)
  refine lv_aload_n hx hb dX8_step_5 rfl (lv_at hl 1 rfl) ?_
  refine va_get (D := E.1) (ci := 9) (v := .ref (ad 35)) (C := RX8) (T := TX8) (N := 41) hx hb hts hiX8 hown hev.1 (xro hR0 hap hS) 0 rfl rfl 35 (by decide) hf177 (fun _ h9 => h9) rfl dX8_step_6 ?_
  refine lv_iload_n hx hb dX8_step_9 rfl (lv_at hl 0 rfl) ?_
  refine lv_iconst (v := 4) hx hb dX8_step_10 (by decide) ?_
  refine lv_iadd hx hb dX8_step_11 ?_
  refine xtop (y := nI ((64 - t) + 4)) ((nI_add (64 - t) 4).trans (congrArg nI (by omega))) ?_
  refine lv_bipush (v := 7) hx hb dX8_step_12 (by decide) ?_
  refine lv_iand hx hb dX8_step_14 ?_
  refine xtop (y := nI (((64 - t) + 4) % 8)) (pk_andN (n := ((64 - t) + 4)) (by omega) 3 (by decide)) ?_
  refine xiald (k := (((64 - t) + 4) % 8)) hx hb hev.1 hP 1 1 rfl rfl (by omega) (by decide) dX8_step_15 ?_
  refine lv_istore_n (lv' := [(3, .int (a35 (((64 - t) + 4) % 8))), (2, .int (nI (64 - t))), (0, .ref m), (1, .int (nI t))]) hx hb dX8_step_16 rfl hl (by decide) rfl (fun ls hl => ?_)
  refine lv_aload_n hx hb dX8_step_17 rfl (lv_at hl 2 rfl) ?_
  refine va_get (D := E.1) (ci := 9) (v := .ref (ad 35)) (C := RX8) (T := TX8) (N := 41) hx hb hts hiX8 hown hev.1 (xro hR0 hap hS) 0 rfl rfl 35 (by decide) hf177 (fun _ h9 => h9) rfl dX8_step_18 ?_
  refine lv_iload_n hx hb dX8_step_21 rfl (lv_at hl 1 rfl) ?_
  refine lv_iconst (v := 5) hx hb dX8_step_22 (by decide) ?_
  refine lv_iadd hx hb dX8_step_23 ?_
  refine xtop (y := nI ((64 - t) + 5)) ((nI_add (64 - t) 5).trans (congrArg nI (by omega))) ?_
  refine lv_bipush (v := 7) hx hb dX8_step_24 (by decide) ?_
  refine lv_iand hx hb dX8_step_26 ?_
  refine xtop (y := nI (((64 - t) + 5) % 8)) (pk_andN (n := ((64 - t) + 5)) (by omega) 3 (by decide)) ?_
  refine xiald (k := (((64 - t) + 5) % 8)) hx hb hev.1 hP 1 1 rfl rfl (by omega) (by decide) dX8_step_27 ?_
  refine lv_istore (lv' := [(4, .int (a35 (((64 - t) + 5) % 8))), (3, .int (a35 (((64 - t) + 4) % 8))), (2, .int (nI (64 - t))), (0, .ref m), (1, .int (nI t))]) hx hb dX8_step_28 hl (by decide) rfl (fun ls hl => ?_)
  refine lv_aload_n hx hb dX8_step_30 rfl (lv_at hl 3 rfl) ?_
  refine va_get (D := E.1) (ci := 9) (v := .ref (ad 35)) (C := RX8) (T := TX8) (N := 41) hx hb hts hiX8 hown hev.1 (xro hR0 hap hS) 0 rfl rfl 35 (by decide) hf177 (fun _ h9 => h9) rfl dX8_step_31 ?_
  refine lv_iload_n hx hb dX8_step_34 rfl (lv_at hl 2 rfl) ?_
  refine lv_bipush (v := 6) hx hb dX8_step_35 (by decide) ?_
  refine lv_iadd hx hb dX8_step_37 ?_
  refine xtop (y := nI ((64 - t) + 6)) ((nI_add (64 - t) 6).trans (congrArg nI (by omega))) ?_
  refine lv_bipush (v := 7) hx hb dX8_step_38 (by decide) ?_
  refine lv_iand hx hb dX8_step_40 ?_
  refine xtop (y := nI (((64 - t) + 6) % 8)) (pk_andN (n := ((64 - t) + 6)) (by omega) 3 (by decide)) ?_
  refine xiald (k := (((64 - t) + 6) % 8)) hx hb hev.1 hP 1 1 rfl rfl (by omega) (by decide) dX8_step_41 ?_
  refine lv_istore (lv' := [(5, .int (a35 (((64 - t) + 6) % 8))), (4, .int (a35 (((64 - t) + 5) % 8))), (3, .int (a35 (((64 - t) + 4) % 8))), (2, .int (nI (64 - t))), (0, .ref m), (1, .int (nI t))]) hx hb dX8_step_42 hl (by decide) rfl (fun ls hl => ?_)
  refine lv_aload_n hx hb dX8_step_44 rfl (lv_at hl 4 rfl) ?_
  refine va_get (D := E.1) (ci := 9) (v := .ref (ad 35)) (C := RX8) (T := TX8) (N := 41) hx hb hts hiX8 hown hev.1 (xro hR0 hap hS) 0 rfl rfl 35 (by decide) hf177 (fun _ h9 => h9) rfl dX8_step_45 ?_
  refine lv_iload_n hx hb dX8_step_48 rfl (lv_at hl 3 rfl) ?_
  refine lv_bipush (v := 7) hx hb dX8_step_49 (by decide) ?_
  refine lv_iand hx hb dX8_step_51 ?_
  refine xtop (y := nI ((64 - t) % 8)) (pk_andN (n := (64 - t)) (by omega) 3 (by decide)) ?_
  refine xiald (k := ((64 - t) % 8)) hx hb hev.1 hP 1 1 rfl rfl (by omega) (by decide) dX8_step_52 ?_
  refine lv_istore (lv' := [(6, .int (a35 ((64 - t) % 8))), (5, .int (a35 (((64 - t) + 6) % 8))), (4, .int (a35 (((64 - t) + 5) % 8))), (3, .int (a35 (((64 - t) + 4) % 8))), (2, .int (nI (64 - t))), (0, .ref m), (1, .int (nI t))]) hx hb dX8_step_53 hl (by decide) rfl (fun ls hl => ?_)
  refine lv_aload_n hx hb dX8_step_55 rfl (lv_at hl 5 rfl) ?_
  refine va_get (D := E.1) (ci := 9) (v := .ref (ad 35)) (C := RX8) (T := TX8) (N := 41) hx hb hts hiX8 hown hev.1 (xro hR0 hap hS) 0 rfl rfl 35 (by decide) hf177 (fun _ h9 => h9) rfl dX8_step_56 ?_
  refine lv_iload_n hx hb dX8_step_59 rfl (lv_at hl 4 rfl) ?_
  refine lv_iconst (v := 1) hx hb dX8_step_60 (by decide) ?_
  refine lv_iadd hx hb dX8_step_61 ?_
  refine xtop (y := nI ((64 - t) + 1)) ((nI_add (64 - t) 1).trans (congrArg nI (by omega))) ?_
  refine lv_bipush (v := 7) hx hb dX8_step_62 (by decide) ?_
  refine lv_iand hx hb dX8_step_64 ?_
  refine xtop (y := nI (((64 - t) + 1) % 8)) (pk_andN (n := ((64 - t) + 1)) (by omega) 3 (by decide)) ?_
  refine xiald (k := (((64 - t) + 1) % 8)) hx hb hev.1 hP 1 1 rfl rfl (by omega) (by decide) dX8_step_65 ?_
  refine lv_istore (lv' := [(7, .int (a35 (((64 - t) + 1) % 8))), (6, .int (a35 ((64 - t) % 8))), (5, .int (a35 (((64 - t) + 6) % 8))), (4, .int (a35 (((64 - t) + 5) % 8))), (3, .int (a35 (((64 - t) + 4) % 8))), (2, .int (nI (64 - t))), (0, .ref m), (1, .int (nI t))]) hx hb dX8_step_66 hl (by decide) rfl (fun ls hl => ?_)
  refine lv_aload_n hx hb dX8_step_68 rfl (lv_at hl 6 rfl) ?_
  refine va_get (D := E.1) (ci := 9) (v := .ref (ad 35)) (C := RX8) (T := TX8) (N := 41) hx hb hts hiX8 hown hev.1 (xro hR0 hap hS) 0 rfl rfl 35 (by decide) hf177 (fun _ h9 => h9) rfl dX8_step_69 ?_
  refine lv_iload_n hx hb dX8_step_72 rfl (lv_at hl 5 rfl) ?_
  refine lv_iconst (v := 2) hx hb dX8_step_73 (by decide) ?_
  refine lv_iadd hx hb dX8_step_74 ?_
  refine xtop (y := nI ((64 - t) + 2)) ((nI_add (64 - t) 2).trans (congrArg nI (by omega))) ?_
  refine lv_bipush (v := 7) hx hb dX8_step_75 (by decide) ?_
  refine lv_iand hx hb dX8_step_77 ?_
  refine xtop (y := nI (((64 - t) + 2) % 8)) (pk_andN (n := ((64 - t) + 2)) (by omega) 3 (by decide)) ?_
  refine xiald (k := (((64 - t) + 2) % 8)) hx hb hev.1 hP 1 1 rfl rfl (by omega) (by decide) dX8_step_78 ?_
  refine lv_istore (lv' := [(8, .int (a35 (((64 - t) + 2) % 8))), (7, .int (a35 (((64 - t) + 1) % 8))), (6, .int (a35 ((64 - t) % 8))), (5, .int (a35 (((64 - t) + 6) % 8))), (4, .int (a35 (((64 - t) + 5) % 8))), (3, .int (a35 (((64 - t) + 4) % 8))), (2, .int (nI (64 - t))), (0, .ref m), (1, .int (nI t))]) hx hb dX8_step_79 hl (by decide) rfl (fun ls hl => ?_)
  refine lv_aload_n hx hb dX8_step_81 rfl (lv_at hl 7 rfl) ?_
  refine va_get (D := E.1) (ci := 9) (v := .ref (ad 35)) (C := RX8) (T := TX8) (N := 41) hx hb hts hiX8 hown hev.1 (xro hR0 hap hS) 0 rfl rfl 35 (by decide) hf177 (fun _ h9 => h9) rfl dX8_step_82 ?_
  refine lv_iload_n hx hb dX8_step_85 rfl (lv_at hl 6 rfl) ?_
  refine lv_bipush (v := 7) hx hb dX8_step_86 (by decide) ?_
  refine lv_iadd hx hb dX8_step_88 ?_
  refine xtop (y := nI ((64 - t) + 7)) ((nI_add (64 - t) 7).trans (congrArg nI (by omega))) ?_
  refine lv_bipush (v := 7) hx hb dX8_step_89 (by decide) ?_
  refine lv_iand hx hb dX8_step_91 ?_
  refine xtop (y := nI (((64 - t) + 7) % 8)) (pk_andN (n := ((64 - t) + 7)) (by omega) 3 (by decide)) ?_
  refine xiald (k := (((64 - t) + 7) % 8)) hx hb hev.1 hP 1 1 rfl rfl (by omega) (by decide) dX8_step_92 ?_
  refine lv_iload_n hx hb dX8_step_93 rfl (lv_at hl 5 rfl) ?_
  refine lv_bipush (v := 6) hx hb dX8_step_94 (by decide) ?_
  have hP := hP.sub (ws' := [] ++ [(ad 34, aI E 16 a34), (ad 35, aI E 8 a35)]) [0, 1] rfl
  have hD := hD.sub (ws' := [] ++ [(ad 34, aI E 16 a34), (ad 35, aI E 8 a35)]) [0, 1] (by decide) rfl
  refine xci (va_runS (As := [.int (a35 (((64 - t) + 4) % 8)), .int 6]) (rest := [.int (a35 (((64 - t) + 7) % 8))]) ⟨hx, hb, hml, hown, hts⟩ (kX8_turned l E (a35 (((64 - t) + 4) % 8)) 6  H.size) (va_cwS 2 hts gX8_step_X8_turned rfl rfl rfl (by decide +kernel) ⟨Nat.le_of_ble_eq_true rfl, Nat.le_of_ble_eq_true rfl⟩) ⟨CP.blind, (xpre hev hz hA hP hD hS hR0 hap [] rfl)⟩ rfl rfl hl.1 rfl (lv_room (Nat.le_of_ble_eq_true rfl)) dX8_step_96 ⟨Nat.le_of_ble_eq_true rfl, Nat.le_of_ble_eq_true rfl⟩) hP hD hS hA (fun r1 w2 H locs h3 hP hD hS => ?_)
  obtain ⟨rfl, rfl, h3⟩ := h3
  try dsimp only at h3
  have hP : va_P E.1 vwCl [(ad 34, aI E 16 a34), (ad 35, aI E 8 a35)] H := hP
  have hD : va_D A [(ad 34, aI E 16 a34), (ad 35, aI E 8 a35)] := hD
  refine lv_iload_n hx hb dX8_step_99 rfl (lv_at hl 5 rfl) ?_
  refine lv_bipush (v := 11) hx hb dX8_step_100 (by decide) ?_
  have hP := hP.sub (ws' := [] ++ [(ad 34, aI E 16 a34), (ad 35, aI E 8 a35)]) [0, 1] rfl
  have hD := hD.sub (ws' := [] ++ [(ad 34, aI E 16 a34), (ad 35, aI E 8 a35)]) [0, 1] (by decide) rfl
  refine xci (va_runS (As := [.int (a35 (((64 - t) + 4) % 8)), .int 11]) (rest := [.int (turn (a35 (((64 - t) + 4) % 8)) 6), .int (a35 (((64 - t) + 7) % 8))]) ⟨hx, hb, hml, hown, hts⟩ (kX8_turned l E (a35 (((64 - t) + 4) % 8)) 11  H.size) (va_cwS 2 hts gX8_step_X8_turned rfl rfl rfl (by decide +kernel) ⟨Nat.le_of_ble_eq_true rfl, Nat.le_of_ble_eq_true rfl⟩) ⟨CP.blind, (xpre hev hz hA hP hD hS hR0 hap [] rfl)⟩ rfl rfl hl.1 rfl (lv_room (Nat.le_of_ble_eq_true rfl)) dX8_step_102 ⟨Nat.le_of_ble_eq_true rfl, Nat.le_of_ble_eq_true rfl⟩) hP hD hS hA (fun r4 w5 H locs h6 hP hD hS => ?_)
  obtain ⟨rfl, rfl, h6⟩ := h6
  try dsimp only at h6
  have hP : va_P E.1 vwCl [(ad 34, aI E 16 a34), (ad 35, aI E 8 a35)] H := hP
  have hD : va_D A [(ad 34, aI E 16 a34), (ad 35, aI E 8 a35)] := hD
  refine lv_ixor hx hb dX8_step_105 ?_
  refine lv_iload_n hx hb dX8_step_106 rfl (lv_at hl 5 rfl) ?_
  refine lv_bipush (v := 25) hx hb dX8_step_107 (by decide) ?_
  have hP := hP.sub (ws' := [] ++ [(ad 34, aI E 16 a34), (ad 35, aI E 8 a35)]) [0, 1] rfl
  have hD := hD.sub (ws' := [] ++ [(ad 34, aI E 16 a34), (ad 35, aI E 8 a35)]) [0, 1] (by decide) rfl
  refine xci (va_runS (As := [.int (a35 (((64 - t) + 4) % 8)), .int 25]) (rest := [.int ((turn (a35 (((64 - t) + 4) % 8)) 6) ^^^ (turn (a35 (((64 - t) + 4) % 8)) 11)), .int (a35 (((64 - t) + 7) % 8))]) ⟨hx, hb, hml, hown, hts⟩ (kX8_turned l E (a35 (((64 - t) + 4) % 8)) 25  H.size) (va_cwS 2 hts gX8_step_X8_turned rfl rfl rfl (by decide +kernel) ⟨Nat.le_of_ble_eq_true rfl, Nat.le_of_ble_eq_true rfl⟩) ⟨CP.blind, (xpre hev hz hA hP hD hS hR0 hap [] rfl)⟩ rfl rfl hl.1 rfl (lv_room (Nat.le_of_ble_eq_true rfl)) dX8_step_109 ⟨Nat.le_of_ble_eq_true rfl, Nat.le_of_ble_eq_true rfl⟩) hP hD hS hA (fun r7 w8 H locs h9 hP hD hS => ?_)
  obtain ⟨rfl, rfl, h9⟩ := h9
  try dsimp only at h9
  have hP : va_P E.1 vwCl [(ad 34, aI E 16 a34), (ad 35, aI E 8 a35)] H := hP
  have hD : va_D A [(ad 34, aI E 16 a34), (ad 35, aI E 8 a35)] := hD
  refine lv_ixor hx hb dX8_step_112 ?_
  refine lv_topi (fun v10 ev10 => ?_)
  refine lv_iadd hx hb dX8_step_113 ?_
  refine lv_iload hx hb dX8_step_114 (lv_at hl 3 rfl) ?_
  refine lv_iload_n hx hb dX8_step_116 rfl (lv_at hl 5 rfl) ?_
  refine lv_iload hx hb dX8_step_117 (lv_at hl 4 rfl) ?_
  refine lv_iload hx hb dX8_step_119 (lv_at hl 3 rfl) ?_
  refine lv_ixor hx hb dX8_step_121 ?_
  refine lv_iand hx hb dX8_step_122 ?_
  refine lv_ixor hx hb dX8_step_123 ?_
  refine lv_topi (fun v11 ev11 => ?_)
  refine lv_iadd hx hb dX8_step_124 ?_
  refine lv_aload_n hx hb dX8_step_125 rfl (lv_at hl 7 rfl) ?_
  refine va_get (D := E.1) (ci := 9) (v := .ref (ad 33)) (C := RX8) (T := TX8) (N := 41) hx hb hts hiX8 hown hev.1 (xro hR0 hap hS) 0 rfl rfl 33 (by decide) hf171 (fun _ h9 => h9) rfl dX8_step_126 ?_
  refine lv_iload_n hx hb dX8_step_129 rfl (lv_at hl 8 rfl) ?_
  refine xiald (k := (t)) hx hb hev.1 (xro hR0 hap hS) 1 1 rfl rfl (by omega) (by decide) dX8_step_130 ?_
  refine lv_iadd hx hb dX8_step_131 ?_
  refine lv_aload_n hx hb dX8_step_132 rfl (lv_at hl 7 rfl) ?_
  refine va_get (D := E.1) (ci := 9) (v := .ref (ad 34)) (C := RX8) (T := TX8) (N := 41) hx hb hts hiX8 hown hev.1 (xro hR0 hap hS) 0 rfl rfl 34 (by decide) hf174 (fun _ h9 => h9) rfl dX8_step_133 ?_
  refine lv_iload_n hx hb dX8_step_136 rfl (lv_at hl 8 rfl) ?_
  refine lv_bipush (v := 15) hx hb dX8_step_137 (by decide) ?_
  refine lv_iand hx hb dX8_step_139 ?_
  refine xtop (y := nI (t % 16)) (pk_andN (n := t) (by omega) 4 (by decide)) ?_
  refine xiald (k := (t % 16)) hx hb hev.1 hP 0 1 rfl rfl (by omega) (by decide) dX8_step_140 ?_
  refine lv_iadd hx hb dX8_step_141 ?_
  refine lv_topi (fun v12 ev12 => ?_)
  refine lv_istore (lv' := [(9, .int v12), (8, .int (a35 (((64 - t) + 2) % 8))), (7, .int (a35 (((64 - t) + 1) % 8))), (6, .int (a35 ((64 - t) % 8))), (5, .int (a35 (((64 - t) + 6) % 8))), (4, .int (a35 (((64 - t) + 5) % 8))), (3, .int (a35 (((64 - t) + 4) % 8))), (2, .int (nI (64 - t))), (0, .ref m), (1, .int (nI t))]) hx hb dX8_step_142 hl (by decide) rfl (fun ls hl => ?_)
  refine lv_iload hx hb dX8_step_144 (lv_at hl 3 rfl) ?_
  refine lv_iconst (v := 2) hx hb dX8_step_146 (by decide) ?_
  have hP := hP.sub (ws' := [] ++ [(ad 34, aI E 16 a34), (ad 35, aI E 8 a35)]) [0, 1] rfl
  have hD := hD.sub (ws' := [] ++ [(ad 34, aI E 16 a34), (ad 35, aI E 8 a35)]) [0, 1] (by decide) rfl
  refine xci (va_runS (As := [.int (a35 ((64 - t) % 8)), .int 2]) (rest := []) ⟨hx, hb, hml, hown, hts⟩ (kX8_turned l E (a35 ((64 - t) % 8)) 2  H.size) (va_cwS 2 hts gX8_step_X8_turned rfl rfl rfl (by decide +kernel) ⟨Nat.le_of_ble_eq_true rfl, Nat.le_of_ble_eq_true rfl⟩) ⟨CP.blind, (xpre hev hz hA hP hD hS hR0 hap [] rfl)⟩ rfl rfl hl.1 rfl (lv_room (Nat.le_of_ble_eq_true rfl)) dX8_step_147 ⟨Nat.le_of_ble_eq_true rfl, Nat.le_of_ble_eq_true rfl⟩) hP hD hS hA (fun r13 w14 H locs h15 hP hD hS => ?_)
  obtain ⟨rfl, rfl, h15⟩ := h15
  try dsimp only at h15
  have hP : va_P E.1 vwCl [(ad 34, aI E 16 a34), (ad 35, aI E 8 a35)] H := hP
  have hD : va_D A [(ad 34, aI E 16 a34), (ad 35, aI E 8 a35)] := hD
  refine lv_iload hx hb dX8_step_150 (lv_at hl 3 rfl) ?_
  refine lv_bipush (v := 13) hx hb dX8_step_152 (by decide) ?_
  have hP := hP.sub (ws' := [] ++ [(ad 34, aI E 16 a34), (ad 35, aI E 8 a35)]) [0, 1] rfl
  have hD := hD.sub (ws' := [] ++ [(ad 34, aI E 16 a34), (ad 35, aI E 8 a35)]) [0, 1] (by decide) rfl
  refine xci (va_runS (As := [.int (a35 ((64 - t) % 8)), .int 13]) (rest := [.int (turn (a35 ((64 - t) % 8)) 2)]) ⟨hx, hb, hml, hown, hts⟩ (kX8_turned l E (a35 ((64 - t) % 8)) 13  H.size) (va_cwS 2 hts gX8_step_X8_turned rfl rfl rfl (by decide +kernel) ⟨Nat.le_of_ble_eq_true rfl, Nat.le_of_ble_eq_true rfl⟩) ⟨CP.blind, (xpre hev hz hA hP hD hS hR0 hap [] rfl)⟩ rfl rfl hl.1 rfl (lv_room (Nat.le_of_ble_eq_true rfl)) dX8_step_154 ⟨Nat.le_of_ble_eq_true rfl, Nat.le_of_ble_eq_true rfl⟩) hP hD hS hA (fun r16 w17 H locs h18 hP hD hS => ?_)
  obtain ⟨rfl, rfl, h18⟩ := h18
  try dsimp only at h18
  have hP : va_P E.1 vwCl [(ad 34, aI E 16 a34), (ad 35, aI E 8 a35)] H := hP
  have hD : va_D A [(ad 34, aI E 16 a34), (ad 35, aI E 8 a35)] := hD
  refine lv_ixor hx hb dX8_step_157 ?_
  refine lv_iload hx hb dX8_step_158 (lv_at hl 3 rfl) ?_
  refine lv_bipush (v := 22) hx hb dX8_step_160 (by decide) ?_
  have hP := hP.sub (ws' := [] ++ [(ad 34, aI E 16 a34), (ad 35, aI E 8 a35)]) [0, 1] rfl
  have hD := hD.sub (ws' := [] ++ [(ad 34, aI E 16 a34), (ad 35, aI E 8 a35)]) [0, 1] (by decide) rfl
  refine xci (va_runS (As := [.int (a35 ((64 - t) % 8)), .int 22]) (rest := [.int ((turn (a35 ((64 - t) % 8)) 2) ^^^ (turn (a35 ((64 - t) % 8)) 13))]) ⟨hx, hb, hml, hown, hts⟩ (kX8_turned l E (a35 ((64 - t) % 8)) 22  H.size) (va_cwS 2 hts gX8_step_X8_turned rfl rfl rfl (by decide +kernel) ⟨Nat.le_of_ble_eq_true rfl, Nat.le_of_ble_eq_true rfl⟩) ⟨CP.blind, (xpre hev hz hA hP hD hS hR0 hap [] rfl)⟩ rfl rfl hl.1 rfl (lv_room (Nat.le_of_ble_eq_true rfl)) dX8_step_162 ⟨Nat.le_of_ble_eq_true rfl, Nat.le_of_ble_eq_true rfl⟩) hP hD hS hA (fun r19 w20 H locs h21 hP hD hS => ?_)
  obtain ⟨rfl, rfl, h21⟩ := h21
  try dsimp only at h21
  have hP : va_P E.1 vwCl [(ad 34, aI E 16 a34), (ad 35, aI E 8 a35)] H := hP
  have hD : va_D A [(ad 34, aI E 16 a34), (ad 35, aI E 8 a35)] := hD
  refine lv_ixor hx hb dX8_step_165 ?_
  refine lv_topi (fun v22 ev22 => ?_)
  refine lv_iload hx hb dX8_step_166 (lv_at hl 3 rfl) ?_
  refine lv_iload hx hb dX8_step_168 (lv_at hl 2 rfl) ?_
  refine lv_iload hx hb dX8_step_170 (lv_at hl 1 rfl) ?_
  refine lv_ior hx hb dX8_step_172 ?_
  refine lv_iand hx hb dX8_step_173 ?_
  refine lv_iload hx hb dX8_step_174 (lv_at hl 2 rfl) ?_
  refine lv_iload hx hb dX8_step_176 (lv_at hl 1 rfl) ?_
  refine lv_iand hx hb dX8_step_178 ?_
  refine lv_ior hx hb dX8_step_179 ?_
  refine lv_topi (fun v23 ev23 => ?_)
  refine lv_iadd hx hb dX8_step_180 ?_
  refine lv_istore (lv' := [(10, .int (v22 + v23)), (9, .int v12), (8, .int (a35 (((64 - t) + 2) % 8))), (7, .int (a35 (((64 - t) + 1) % 8))), (6, .int (a35 ((64 - t) % 8))), (5, .int (a35 (((64 - t) + 6) % 8))), (4, .int (a35 (((64 - t) + 5) % 8))), (3, .int (a35 (((64 - t) + 4) % 8))), (2, .int (nI (64 - t))), (0, .ref m), (1, .int (nI t))]) hx hb dX8_step_181 hl (by decide) rfl (fun ls hl => ?_)
  refine lv_aload_n hx hb dX8_step_183 rfl (lv_at hl 9 rfl) ?_
  refine va_get (D := E.1) (ci := 9) (v := .ref (ad 35)) (C := RX8) (T := TX8) (N := 41) hx hb hts hiX8 hown hev.1 (xro hR0 hap hS) 0 rfl rfl 35 (by decide) hf177 (fun _ h9 => h9) rfl dX8_step_184 ?_
  refine lv_iload_n hx hb dX8_step_187 rfl (lv_at hl 8 rfl) ?_
  refine lv_iconst (v := 3) hx hb dX8_step_188 (by decide) ?_
  refine lv_iadd hx hb dX8_step_189 ?_
  refine xtop (y := nI ((64 - t) + 3)) ((nI_add (64 - t) 3).trans (congrArg nI (by omega))) ?_
  refine lv_bipush (v := 7) hx hb dX8_step_190 (by decide) ?_
  refine lv_iand hx hb dX8_step_192 ?_
  refine xtop (y := nI (((64 - t) + 3) % 8)) (pk_andN (n := ((64 - t) + 3)) (by omega) 3 (by decide)) ?_
  refine lv_dup2_11 hx hb dX8_step_193 rfl rfl ?_
  refine xiald (k := (((64 - t) + 3) % 8)) hx hb hev.1 hP 1 1 rfl rfl (by omega) (by decide) dX8_step_194 ?_
  refine lv_iload hx hb dX8_step_195 (lv_at hl 1 rfl) ?_
  refine lv_iadd hx hb dX8_step_197 ?_
  refine xiast (k := ((64 - t) + 3) % 8) hx hb hev.1 hP hD hS 1 1 rfl rfl (by omega) (by decide) dX8_step_198 (fun H locs hP hD hS => ?_)
  obtain ⟨f24, ef24⟩ : ∃ y9_ : Nat → Int32, y9_ = upd a35 (((64 - t) + 3) % 8) ((a35 (((64 - t) + 3) % 8)) + v12) := ⟨_, rfl⟩
  rw [← ef24] at hP hD
  have hP : va_P E.1 vwCl [(ad 34, aI E 16 a34), (ad 35, aI E 8 f24)] H := hP
  have hD : va_D A [(ad 34, aI E 16 a34), (ad 35, aI E 8 f24)] := hD
  refine lv_aload_n hx hb dX8_step_199 rfl (lv_at hl 9 rfl) ?_
  refine va_get (D := E.1) (ci := 9) (v := .ref (ad 35)) (C := RX8) (T := TX8) (N := 41) hx hb hts hiX8 hown hev.1 (xro hR0 hap hS) 0 rfl rfl 35 (by decide) hf177 (fun _ h9 => h9) rfl dX8_step_200 ?_
  refine lv_iload_n hx hb dX8_step_203 rfl (lv_at hl 8 rfl) ?_
  refine lv_bipush (v := 7) hx hb dX8_step_204 (by decide) ?_
  refine lv_iadd hx hb dX8_step_206 ?_
  refine xtop (y := nI ((64 - t) + 7)) ((nI_add (64 - t) 7).trans (congrArg nI (by omega))) ?_
  refine lv_bipush (v := 7) hx hb dX8_step_207 (by decide) ?_
  refine lv_iand hx hb dX8_step_209 ?_
  refine xtop (y := nI (((64 - t) + 7) % 8)) (pk_andN (n := ((64 - t) + 7)) (by omega) 3 (by decide)) ?_
  refine lv_iload hx hb dX8_step_210 (lv_at hl 1 rfl) ?_
  refine lv_iload hx hb dX8_step_212 (lv_at hl 0 rfl) ?_
  refine lv_iadd hx hb dX8_step_214 ?_
  refine xiast (k := ((64 - t) + 7) % 8) hx hb hev.1 hP hD hS 1 1 rfl rfl (by omega) (by decide) dX8_step_215 (fun H locs hP hD hS => ?_)
  obtain ⟨f25, ef25⟩ : ∃ y9_ : Nat → Int32, y9_ = upd f24 (((64 - t) + 7) % 8) (v12 + (v22 + v23)) := ⟨_, rfl⟩
  rw [← ef25] at hP hD
  have hP : va_P E.1 vwCl [(ad 34, aI E 16 a34), (ad 35, aI E 8 f25)] H := hP
  have hD : va_D A [(ad 34, aI E 16 a34), (ad 35, aI E 8 f25)] := hD
  refine lv_aload_n hx hb dX8_step_216 rfl (lv_at hl 9 rfl) ?_
  refine va_get (D := E.1) (ci := 9) (v := .ref (ad 34)) (C := RX8) (T := TX8) (N := 41) hx hb hts hiX8 hown hev.1 (xro hR0 hap hS) 0 rfl rfl 34 (by decide) hf174 (fun _ h9 => h9) rfl dX8_step_217 ?_
  refine lv_iload_n hx hb dX8_step_220 rfl (lv_at hl 10 rfl) ?_
  refine lv_bipush (v := 15) hx hb dX8_step_221 (by decide) ?_
  refine lv_iand hx hb dX8_step_223 ?_
  refine xtop (y := nI (t % 16)) (pk_andN (n := t) (by omega) 4 (by decide)) ?_
  refine lv_aload_n hx hb dX8_step_224 rfl (lv_at hl 9 rfl) ?_
  refine lv_iload_n hx hb dX8_step_225 rfl (lv_at hl 10 rfl) ?_
  have hP := hP.sub (ws' := [] ++ [(ad 34, aI E 16 a34), (ad 35, aI E 8 f25)]) [0, 1] rfl
  have hD := hD.sub (ws' := [] ++ [(ad 34, aI E 16 a34), (ad 35, aI E 8 f25)]) [0, 1] (by decide) rfl
  refine xci (va_runV (As := [.int (nI t)]) (rest := [.int (nI (t % 16)), .ref (ad 34)]) ⟨hx, hb, hml, hown, hts⟩ (kX8_later l E m ad th kn rn mn dp a34 t (by first | assumption | omega) H.size) (cwV 1 hts gX8_step_X8_later rfl rfl rfl (by decide +kernel) ⟨Nat.le_of_ble_eq_true rfl, Nat.le_of_ble_eq_true rfl⟩) ⟨CP.blind, (va_recv hev.1 (xro hR0 hap hS) (ci := 9) (q0 := 0) rfl rfl), (xpre hev hz hA hP hD hS hR0 hap [2, 0] rfl)⟩ rfl rfl hl.1 rfl (lv_room (Nat.le_of_ble_eq_true rfl)) dX8_step_226 ⟨Nat.le_of_ble_eq_true rfl, Nat.le_of_ble_eq_true rfl⟩) hP hD hS hA (fun r26 w27 H locs h28 hP hD hS => ?_)
  obtain ⟨rfl, rfl, h28⟩ := h28
  try dsimp only at h28
  have hP : va_P E.1 vwCl [(ad 34, aI E 16 a34), (ad 35, aI E 8 f25)] H := hP
  have hD : va_D A [(ad 34, aI E 16 a34), (ad 35, aI E 8 f25)] := hD
  refine xiast (k := t % 16) hx hb hev.1 hP hD hS 0 1 rfl rfl (by omega) (by decide) dX8_step_229 (fun H locs hP hD hS => ?_)
  obtain ⟨f29, ef29⟩ : ∃ y9_ : Nat → Int32, y9_ = upd a34 (t % 16) (ltr a34 t) := ⟨_, rfl⟩
  rw [← ef29] at hP hD
  have hP : va_P E.1 vwCl [(ad 34, aI E 16 f29), (ad 35, aI E 8 f25)] H := hP
  have hD : va_D A [(ad 34, aI E 16 f29), (ad 35, aI E 8 f25)] := hD
  refine xrv hx hb hr hlocks hP hD hS ⟨f29, f25, rfl, ?_⟩ dX8_step_230
  subst_vars
  exact ⟨rfl, rfl⟩

abbrev pX8_block (E : xE) (m : Nat) (ad : Nat → Nat) (th : Int32) (kn : Nat) (rn : Nat) (mn : Nat) (dp : Nat) (a29 : Nat → Int32) (a33 : Nat → Int32) (a34 : Nat → Int32) (a35 : Nat → Int32) (a36 : Nat → Int32) (b : Nat) (w : va_W) : Prop := ∃ (g34 : Nat → Int32) (g35 : Nat → Int32) (g36 : Nat → Int32), w = [(ad 34, aI E 16 g34), (ad 35, aI E 8 g35), (ad 36, aI E 8 g36)] ∧ (∀ i, i < 8 → g36 i = blk a36 (mwd a29 b) i)
set_option maxHeartbeats 4000000 in
set_option maxRecDepth 100000 in
theorem kX8_block (l : Launch) (E : xE) (m : Nat) (ad : Nat → Nat) (th : Int32) (kn : Nat) (rn : Nat) (mn : Nat) (dp : Nat) (a29 : Nat → Int32) (a33 : Nat → Int32) (a34 : Nat → Int32) (a35 : Nat → Int32) (a36 : Nat → Int32) (b : Nat) (hb9 : b + 64 ≤ 256) (hst : ∀ k, k < 64 → a33 k = sRC k) : KT l yX8_block wsX8_block 3 74 0 0 E [(ad 34, aI E 16 a34), (ad 35, aI E 8 a35), (ad 36, aI E 8 a36)] [(m, .inr (9, [.int th, .int (nI kn), .int (nI rn), .ref (ad 3), .ref (ad 4), .ref (ad 5), .ref (ad 6), .ref (ad 7), .ref (ad 8), .ref (ad 9), .ref (ad 10), .ref (ad 11), .ref (ad 12), .ref (ad 13), .ref (ad 14), .ref (ad 15), .ref (ad 16), .ref (ad 17), .ref (ad 18), .ref (ad 19), .ref (ad 20), .ref (ad 21), .ref (ad 22), .ref (ad 23), .ref (ad 24), .ref (ad 25), .ref (ad 26), .ref (ad 27), .int (nI mn), .ref (ad 29), .ref (ad 30), .ref (ad 31), .ref (ad 32), .ref (ad 33), .ref (ad 34), .ref (ad 35), .ref (ad 36), .ref (ad 37), .int (nI dp), .ref (ad 39), .ref (ad 40)])), (ad 29, aI E 256 a29), (ad 33, aI E 64 a33)] [.ref m, .int (nI b)] (QV E (pX8_block E m ad th kn rn mn dp a29 a33 a34 a35 a36 b)) := by
  refine KT.start (cc := cX8_block) (maxL := 3) (ret := none) (by decide) rfl (Nat.le_of_ble_eq_true rfl) ?_
  intro p e s m below meth c A H hx hb hr hlocks hml hts hown hin hP hR0 hD hap hev hz hA hS ls hl
  have hl : lv_has ls 3 [(0, .ref m), (1, .int (nI b))] := hl
  have hiX8 : ∀ w ∈ wsX80, w ∈ wsX8_block := by decide +kernel
  have hf174 := hts (.fieldLink RX8 174 "SignQuorumModel" "word" "[I") (by decide +kernel)
  have hf177 := hts (.fieldLink RX8 177 "SignQuorumModel" "state" "[I") (by decide +kernel)
  have hf180 := hts (.fieldLink RX8 180 "SignQuorumModel" "sum" "[I") (by decide +kernel)
  have hf87 := hts (.fieldLink RX8 87 "SignQuorumModel" "bytes" "[I") (by decide +kernel)
  refine lv_iconst (v := 0) hx hb dX8_block_0 (by decide) ?_
  refine lv_istore_n (lv' := [(2, .int 0), (0, .ref m), (1, .int (nI b))]) hx hb dX8_block_1 rfl hl (by decide) rfl (fun ls hl => ?_)
  have loop2 : ∀ (fz : Nat) (i : Nat) (g34 : Nat → Int32), (i ≤ 16) → (∀ j, j < i → g34 j = mwd a29 b j) → (16 - i < fz) → ∀ (H : Heap) (locs : List Loc), va_P E.1 vwCl [(ad 34, aI E 16 g34), (ad 35, aI E 8 a35), (ad 36, aI E 8 a36)] H → va_D A [(ad 34, aI E 16 g34), (ad 35, aI E 8 a35), (ad 36, aI E 8 a36)] → va_S A s.heap H locs → ∀ ls : Array Slot, lv_has ls 3 [(2, .int (nI i)), (0, .ref m), (1, .int (nI b))] → W p l e ({ frames := 3, cells := 0, slots := 0, locals := 74 } : Room) s m ([.ref m, .int (nI b)] : List Value).toArray below meth c H locs 0 0 (MQ below (QV E (pX8_block E m ad th kn rn mn dp a29 a33 a34 a35 a36 b) A) ([.ref m, .int (nI b)] : List Value).toArray s 0 0 A) (F0 m 2 ls []) := by
    intro fz
    induction fz with
    | zero =>
      intro i g34 hi hg hfuel
      exact absurd hfuel (by omega)
    | succ fz ih =>
      intro i g34 hi hg hfuel H locs hP hD hS ls hl
      refine lv_iload_n hx hb dX8_block_2 rfl (lv_at hl 0 rfl) ?_
      refine lv_bipush (v := 16) hx hb dX8_block_3 (by decide) ?_
      refine lv_icmp_ge (tgt := 78) hx hb dX8_block_5 (by decide) (fun c1 => ?_) (fun c1 => ?_)
      · skip
        have kc1 : 16 ≤ i := (nI_leI (a := 16) (b := i) (by omega) (by omega)).mp c1
        refine lv_iconst (v := 0) hx hb dX8_block_78 (by decide) ?_
        refine lv_istore_n (lv' := [(2, .int 0), (0, .ref m), (1, .int (nI b))]) hx hb dX8_block_79 rfl hl (by decide) rfl (fun ls hl => ?_)
        have loop80 : ∀ (fz : Nat) (i2 : Nat) (g35 : Nat → Int32), (i2 ≤ 8) → (∀ j, j < i2 → g35 j = a36 j) → (8 - i2 < fz) → ∀ (H : Heap) (locs : List Loc), va_P E.1 vwCl [(ad 34, aI E 16 g34), (ad 35, aI E 8 g35), (ad 36, aI E 8 a36)] H → va_D A [(ad 34, aI E 16 g34), (ad 35, aI E 8 g35), (ad 36, aI E 8 a36)] → va_S A s.heap H locs → ∀ ls : Array Slot, lv_has ls 3 [(2, .int (nI i2)), (0, .ref m), (1, .int (nI b))] → W p l e ({ frames := 3, cells := 0, slots := 0, locals := 74 } : Room) s m ([.ref m, .int (nI b)] : List Value).toArray below meth c H locs 0 0 (MQ below (QV E (pX8_block E m ad th kn rn mn dp a29 a33 a34 a35 a36 b) A) ([.ref m, .int (nI b)] : List Value).toArray s 0 0 A) (F0 m 80 ls []) := by
          intro fz
          induction fz with
          | zero =>
            intro i2 g35 hi2 hg2 hfuel
            exact absurd hfuel (by omega)
          | succ fz ih =>
            intro i2 g35 hi2 hg2 hfuel H locs hP hD hS ls hl
            refine lv_iload_n hx hb dX8_block_80 rfl (lv_at hl 0 rfl) ?_
            refine lv_bipush (v := 8) hx hb dX8_block_81 (by decide) ?_
            refine lv_icmp_ge (tgt := 104) hx hb dX8_block_83 (by decide) (fun c2 => ?_) (fun c2 => ?_)
            · skip
              have kc2 : 8 ≤ i2 := (nI_leI (a := 8) (b := i2) (by omega) (by omega)).mp c2
              refine lv_iconst (v := 0) hx hb dX8_block_104 (by decide) ?_
              refine lv_istore_n (lv' := [(2, .int 0), (0, .ref m), (1, .int (nI b))]) hx hb dX8_block_105 rfl hl (by decide) rfl (fun ls hl => ?_)
              have loop106 : ∀ (fz : Nat) (t : Nat) (W3 : Nat → Int32) (S3 : Nat → Int32), (t ≤ 64) → (stI S3 W3 a36 (mwd a29 b) t) → (64 - t < fz) → ∀ (H : Heap) (locs : List Loc), va_P E.1 vwCl [(ad 34, aI E 16 W3), (ad 35, aI E 8 S3), (ad 36, aI E 8 a36)] H → va_D A [(ad 34, aI E 16 W3), (ad 35, aI E 8 S3), (ad 36, aI E 8 a36)] → va_S A s.heap H locs → ∀ ls : Array Slot, lv_has ls 3 [(2, .int (nI t)), (0, .ref m), (1, .int (nI b))] → W p l e ({ frames := 3, cells := 0, slots := 0, locals := 74 } : Room) s m ([.ref m, .int (nI b)] : List Value).toArray below meth c H locs 0 0 (MQ below (QV E (pX8_block E m ad th kn rn mn dp a29 a33 a34 a35 a36 b) A) ([.ref m, .int (nI b)] : List Value).toArray s 0 0 A) (F0 m 106 ls []) := by
                intro fz
                induction fz with
                | zero =>
                  intro t W3 S3 ht hI hfuel
                  exact absurd hfuel (by omega)
                | succ fz ih =>
                  intro t W3 S3 ht hI hfuel H locs hP hD hS ls hl
                  refine lv_iload_n hx hb dX8_block_106 rfl (lv_at hl 0 rfl) ?_
                  refine lv_bipush (v := 64) hx hb dX8_block_107 (by decide) ?_
                  refine lv_icmp_ge (tgt := 123) hx hb dX8_block_109 (by decide) (fun c3 => ?_) (fun c3 => ?_)
                  · skip
                    have kc3 : 64 ≤ t := (nI_leI (a := 64) (b := t) (by omega) (by omega)).mp c3
                    obtain rfl : t = 64 := by omega
                    have hS64 := stI_64 hI
                    refine lv_iconst (v := 0) hx hb dX8_block_123 (by decide) ?_
                    refine lv_istore_n (lv' := [(2, .int 0), (0, .ref m), (1, .int (nI b))]) hx hb dX8_block_124 rfl hl (by decide) rfl (fun ls hl => ?_)
                    have loop125 : ∀ (fz : Nat) (i4 : Nat) (g36 : Nat → Int32), (i4 ≤ 8) → ((∀ j, j < i4 → g36 j = blk a36 (mwd a29 b) j) ∧ ∀ j, i4 ≤ j → g36 j = a36 j) → (8 - i4 < fz) → ∀ (H : Heap) (locs : List Loc), va_P E.1 vwCl [(ad 34, aI E 16 W3), (ad 35, aI E 8 S3), (ad 36, aI E 8 g36)] H → va_D A [(ad 34, aI E 16 W3), (ad 35, aI E 8 S3), (ad 36, aI E 8 g36)] → va_S A s.heap H locs → ∀ ls : Array Slot, lv_has ls 3 [(2, .int (nI i4)), (0, .ref m), (1, .int (nI b))] → W p l e ({ frames := 3, cells := 0, slots := 0, locals := 74 } : Room) s m ([.ref m, .int (nI b)] : List Value).toArray below meth c H locs 0 0 (MQ below (QV E (pX8_block E m ad th kn rn mn dp a29 a33 a34 a35 a36 b) A) ([.ref m, .int (nI b)] : List Value).toArray s 0 0 A) (F0 m 125 ls []) := by
                      intro fz
                      induction fz with
                      | zero =>
                        intro i4 g36 hi4 hg4 hfuel
                        exact absurd hfuel (by omega)
                      | succ fz ih =>
                        intro i4 g36 hi4 hg4 hfuel H locs hP hD hS ls hl
                        refine lv_iload_n hx hb dX8_block_125 rfl (lv_at hl 0 rfl) ?_
                        refine lv_bipush (v := 8) hx hb dX8_block_126 (by decide) ?_
                        refine lv_icmp_ge (tgt := 152) hx hb dX8_block_128 (by decide) (fun c4 => ?_) (fun c4 => ?_)
                        · skip
                          have kc4 : 8 ≤ i4 := (nI_leI (a := 8) (b := i4) (by omega) (by omega)).mp c4
                          refine xrv hx hb hr hlocks hP hD hS ⟨W3, S3, g36, rfl, ?_⟩ dX8_block_152
                          exact fun i hi => hg4.1 i (by omega)
                        · skip
                          have kc4 : ¬ 8 ≤ i4 := fun h9 => c4 ((nI_leI (a := 8) (b := i4) (by omega) (by omega)).mpr h9)
                          refine lv_aload_n hx hb dX8_block_131 rfl (lv_at hl 1 rfl) ?_
                          refine va_get (D := E.1) (ci := 9) (v := .ref (ad 36)) (C := RX8) (T := TX8) (N := 41) hx hb hts hiX8 hown hev.1 (xro hR0 hap hS) 0 rfl rfl 36 (by decide) hf180 (fun _ h9 => h9) rfl dX8_block_132 ?_
                          refine lv_iload_n hx hb dX8_block_135 rfl (lv_at hl 0 rfl) ?_
                          refine lv_dup2_11 hx hb dX8_block_136 rfl rfl ?_
                          refine xiald (k := (i4)) hx hb hev.1 hP 2 1 rfl rfl (by omega) (by decide) dX8_block_137 ?_
                          refine lv_aload_n hx hb dX8_block_138 rfl (lv_at hl 1 rfl) ?_
                          refine va_get (D := E.1) (ci := 9) (v := .ref (ad 35)) (C := RX8) (T := TX8) (N := 41) hx hb hts hiX8 hown hev.1 (xro hR0 hap hS) 0 rfl rfl 35 (by decide) hf177 (fun _ h9 => h9) rfl dX8_block_139 ?_
                          refine lv_iload_n hx hb dX8_block_142 rfl (lv_at hl 0 rfl) ?_
                          refine xiald (k := (i4)) hx hb hev.1 hP 1 1 rfl rfl (by omega) (by decide) dX8_block_143 ?_
                          refine lv_iadd hx hb dX8_block_144 ?_
                          refine xiast (k := i4) hx hb hev.1 hP hD hS 2 1 rfl rfl (by omega) (by decide) dX8_block_145 (fun H locs hP hD hS => ?_)
                          obtain ⟨f5, ef5⟩ : ∃ y9_ : Nat → Int32, y9_ = upd g36 i4 ((g36 i4) + (S3 i4)) := ⟨_, rfl⟩
                          rw [← ef5] at hP hD
                          have hP : va_P E.1 vwCl [(ad 34, aI E 16 W3), (ad 35, aI E 8 S3), (ad 36, aI E 8 f5)] H := hP
                          have hD : va_D A [(ad 34, aI E 16 W3), (ad 35, aI E 8 S3), (ad 36, aI E 8 f5)] := hD
                          refine lv_iinc (v := nI (i4 + 1)) (lv' := [(2, .int (nI (i4 + 1))), (0, .ref m), (1, .int (nI b))]) hx hb dX8_block_146 hl (k := 0) rfl ((nI_add i4 1).trans (congrArg nI (by omega))) (by decide) rfl (fun ls hl => ?_)
                          refine lv_goto (tgt := 125) hx hb dX8_block_149 (by decide) ?_
                          exact ih  (i4 + 1) f5 (by omega) (⟨lt_s (fun j hj => by rw [ef5, upd_ne (by omega)]; exact hg4.1 j hj) (by rw [ef5, upd_self, hg4.2 i4 (by omega), hS64 i4 (by omega)]; rfl), fun j hj => by rw [ef5, upd_ne (by omega)]; exact hg4.2 j (by omega)⟩) (by omega) _ _ hP hD hS ls (lv_sub hl [0, 1, 2] rfl)
                    exact loop125 9 0 a36 (by omega) (⟨fun _ h9 => absurd h9 (by omega), fun _ _ => rfl⟩) (by omega) _ _ hP hD hS ls (lv_sub hl [0, 1, 2] rfl)
                  · skip
                    have kc3 : ¬ 64 ≤ t := fun h9 => c3 ((nI_leI (a := 64) (b := t) (by omega) (by omega)).mpr h9)
                    refine lv_aload_n hx hb dX8_block_112 rfl (lv_at hl 1 rfl) ?_
                    refine lv_iload_n hx hb dX8_block_113 rfl (lv_at hl 0 rfl) ?_
                    have hP := hP.sub (ws' := [(ad 34, aI E 16 W3), (ad 35, aI E 8 S3)] ++ [(ad 36, aI E 8 a36)]) [0, 1, 2] rfl
                    have hD := hD.sub (ws' := [(ad 34, aI E 16 W3), (ad 35, aI E 8 S3)] ++ [(ad 36, aI E 8 a36)]) [0, 1, 2] (by decide) rfl
                    refine xcv (va_runV (As := [.int (nI t)]) (rest := []) ⟨hx, hb, hml, hown, hts⟩ (kX8_step l E m ad th kn rn mn dp a33 W3 S3 t (by first | assumption | omega) H.size) (cwV 1 hts gX8_block_X8_step rfl rfl rfl (by decide +kernel) ⟨Nat.le_of_ble_eq_true rfl, Nat.le_of_ble_eq_true rfl⟩) ⟨CP.blind, (va_recv hev.1 (xro hR0 hap hS) (ci := 9) (q0 := 0) rfl rfl), (xpre hev hz hA hP hD hS hR0 hap [1, 3] rfl)⟩ rfl rfl hl.1 rfl (lv_room (Nat.le_of_ble_eq_true rfl)) dX8_block_114 ⟨Nat.le_of_ble_eq_true rfl, Nat.le_of_ble_eq_true rfl⟩) hP hD hS hA (fun w7 H locs h8 hP hD hS => ?_)
                    obtain ⟨g349, g3510, rfl, h8⟩ := h8
                    try dsimp only at h8
                    have hP : va_P E.1 vwCl [(ad 34, aI E 16 g349), (ad 35, aI E 8 g3510), (ad 36, aI E 8 a36)] H := hP
                    have hD : va_D A [(ad 34, aI E 16 g349), (ad 35, aI E 8 g3510), (ad 36, aI E 8 a36)] := hD
                    refine lv_iinc (v := nI (t + 1)) (lv' := [(2, .int (nI (t + 1))), (0, .ref m), (1, .int (nI b))]) hx hb dX8_block_117 hl (k := 0) rfl ((nI_add t 1).trans (congrArg nI (by omega))) (by decide) rfl (fun ls hl => ?_)
                    refine lv_goto (tgt := 106) hx hb dX8_block_120 (by decide) ?_
                    exact ih  (t + 1) g349 g3510 (by omega) (stI_step (by omega) hI (hst t (by omega)) h8.1 h8.2) (by omega) _ _ hP hD hS ls (lv_sub hl [0, 1, 2] rfl)
              exact loop106 65 0 g34 g35 (by omega) (stI_0 (fun j hj => hg2 j (by omega)) (fun k hk => hg k (by omega))) (by omega) _ _ hP hD hS ls (lv_sub hl [0, 1, 2] rfl)
            · skip
              have kc2 : ¬ 8 ≤ i2 := fun h9 => c2 ((nI_leI (a := 8) (b := i2) (by omega) (by omega)).mpr h9)
              refine lv_aload_n hx hb dX8_block_86 rfl (lv_at hl 1 rfl) ?_
              refine va_get (D := E.1) (ci := 9) (v := .ref (ad 35)) (C := RX8) (T := TX8) (N := 41) hx hb hts hiX8 hown hev.1 (xro hR0 hap hS) 0 rfl rfl 35 (by decide) hf177 (fun _ h9 => h9) rfl dX8_block_87 ?_
              refine lv_iload_n hx hb dX8_block_90 rfl (lv_at hl 0 rfl) ?_
              refine lv_aload_n hx hb dX8_block_91 rfl (lv_at hl 1 rfl) ?_
              refine va_get (D := E.1) (ci := 9) (v := .ref (ad 36)) (C := RX8) (T := TX8) (N := 41) hx hb hts hiX8 hown hev.1 (xro hR0 hap hS) 0 rfl rfl 36 (by decide) hf180 (fun _ h9 => h9) rfl dX8_block_92 ?_
              refine lv_iload_n hx hb dX8_block_95 rfl (lv_at hl 0 rfl) ?_
              refine xiald (k := (i2)) hx hb hev.1 hP 2 1 rfl rfl (by omega) (by decide) dX8_block_96 ?_
              refine xiast (k := i2) hx hb hev.1 hP hD hS 1 1 rfl rfl (by omega) (by decide) dX8_block_97 (fun H locs hP hD hS => ?_)
              obtain ⟨f11, ef11⟩ : ∃ y9_ : Nat → Int32, y9_ = upd g35 i2 (a36 i2) := ⟨_, rfl⟩
              rw [← ef11] at hP hD
              have hP : va_P E.1 vwCl [(ad 34, aI E 16 g34), (ad 35, aI E 8 f11), (ad 36, aI E 8 a36)] H := hP
              have hD : va_D A [(ad 34, aI E 16 g34), (ad 35, aI E 8 f11), (ad 36, aI E 8 a36)] := hD
              refine lv_iinc (v := nI (i2 + 1)) (lv' := [(2, .int (nI (i2 + 1))), (0, .ref m), (1, .int (nI b))]) hx hb dX8_block_98 hl (k := 0) rfl ((nI_add i2 1).trans (congrArg nI (by omega))) (by decide) rfl (fun ls hl => ?_)
              refine lv_goto (tgt := 80) hx hb dX8_block_101 (by decide) ?_
              exact ih  (i2 + 1) f11 (by omega) (lt_s (fun j hj => by rw [ef11, upd_ne (by omega)]; exact hg2 j hj) (by rw [ef11, upd_self])) (by omega) _ _ hP hD hS ls (lv_sub hl [0, 1, 2] rfl)
        exact loop80 9 0 a35 (by omega) (fun _ h9 => absurd h9 (by omega)) (by omega) _ _ hP hD hS ls (lv_sub hl [0, 1, 2] rfl)
      · skip
        have kc1 : ¬ 16 ≤ i := fun h9 => c1 ((nI_leI (a := 16) (b := i) (by omega) (by omega)).mpr h9)
        refine lv_aload_n hx hb dX8_block_8 rfl (lv_at hl 1 rfl) ?_
        refine va_get (D := E.1) (ci := 9) (v := .ref (ad 34)) (C := RX8) (T := TX8) (N := 41) hx hb hts hiX8 hown hev.1 (xro hR0 hap hS) 0 rfl rfl 34 (by decide) hf174 (fun _ h9 => h9) rfl dX8_block_9 ?_
        refine lv_iload_n hx hb dX8_block_12 rfl (lv_at hl 0 rfl) ?_
        refine lv_aload_n hx hb dX8_block_13 rfl (lv_at hl 1 rfl) ?_
        refine va_get (D := E.1) (ci := 9) (v := .ref (ad 29)) (C := RX8) (T := TX8) (N := 41) hx hb hts hiX8 hown hev.1 (xro hR0 hap hS) 0 rfl rfl 29 (by decide) hf87 (fun _ h9 => h9) rfl dX8_block_14 ?_
        refine lv_iload_n hx hb dX8_block_17 rfl (lv_at hl 2 rfl) ?_
        refine lv_iconst (v := 4) hx hb dX8_block_18 (by decide) ?_
        refine lv_iload_n hx hb dX8_block_19 rfl (lv_at hl 0 rfl) ?_
        refine lv_imul hx hb dX8_block_20 ?_
        refine xtop (y := nI (4 * i)) (pk_mul _ _) ?_
        refine lv_iadd hx hb dX8_block_21 ?_
        refine xtop (y := nI (b + (4 * i))) ((nI_add b (4 * i)).trans (congrArg nI (by omega))) ?_
        refine xiald (k := (b + (4 * i))) hx hb hev.1 (xro hR0 hap hS) 1 1 rfl rfl (by omega) (by decide) dX8_block_22 ?_
        refine lv_bipush (v := 24) hx hb dX8_block_23 (by decide) ?_
        refine lv_ishl hx hb dX8_block_25 ?_
        refine lv_aload_n hx hb dX8_block_26 rfl (lv_at hl 1 rfl) ?_
        refine va_get (D := E.1) (ci := 9) (v := .ref (ad 29)) (C := RX8) (T := TX8) (N := 41) hx hb hts hiX8 hown hev.1 (xro hR0 hap hS) 0 rfl rfl 29 (by decide) hf87 (fun _ h9 => h9) rfl dX8_block_27 ?_
        refine lv_iload_n hx hb dX8_block_30 rfl (lv_at hl 2 rfl) ?_
        refine lv_iconst (v := 4) hx hb dX8_block_31 (by decide) ?_
        refine lv_iload_n hx hb dX8_block_32 rfl (lv_at hl 0 rfl) ?_
        refine lv_imul hx hb dX8_block_33 ?_
        refine xtop (y := nI (4 * i)) (pk_mul _ _) ?_
        refine lv_iadd hx hb dX8_block_34 ?_
        refine xtop (y := nI (b + (4 * i))) ((nI_add b (4 * i)).trans (congrArg nI (by omega))) ?_
        refine lv_iconst (v := 1) hx hb dX8_block_35 (by decide) ?_
        refine lv_iadd hx hb dX8_block_36 ?_
        refine xtop (y := nI (b + (4 * i) + 1)) ((nI_add (b + (4 * i)) 1).trans (congrArg nI (by omega))) ?_
        refine xiald (k := (b + (4 * i) + 1)) hx hb hev.1 (xro hR0 hap hS) 1 1 rfl rfl (by omega) (by decide) dX8_block_37 ?_
        refine lv_bipush (v := 16) hx hb dX8_block_38 (by decide) ?_
        refine lv_ishl hx hb dX8_block_40 ?_
        refine lv_ior hx hb dX8_block_41 ?_
        refine lv_aload_n hx hb dX8_block_42 rfl (lv_at hl 1 rfl) ?_
        refine va_get (D := E.1) (ci := 9) (v := .ref (ad 29)) (C := RX8) (T := TX8) (N := 41) hx hb hts hiX8 hown hev.1 (xro hR0 hap hS) 0 rfl rfl 29 (by decide) hf87 (fun _ h9 => h9) rfl dX8_block_43 ?_
        refine lv_iload_n hx hb dX8_block_46 rfl (lv_at hl 2 rfl) ?_
        refine lv_iconst (v := 4) hx hb dX8_block_47 (by decide) ?_
        refine lv_iload_n hx hb dX8_block_48 rfl (lv_at hl 0 rfl) ?_
        refine lv_imul hx hb dX8_block_49 ?_
        refine xtop (y := nI (4 * i)) (pk_mul _ _) ?_
        refine lv_iadd hx hb dX8_block_50 ?_
        refine xtop (y := nI (b + (4 * i))) ((nI_add b (4 * i)).trans (congrArg nI (by omega))) ?_
        refine lv_iconst (v := 2) hx hb dX8_block_51 (by decide) ?_
        refine lv_iadd hx hb dX8_block_52 ?_
        refine xtop (y := nI (b + (4 * i) + 2)) ((nI_add (b + (4 * i)) 2).trans (congrArg nI (by omega))) ?_
        refine xiald (k := (b + (4 * i) + 2)) hx hb hev.1 (xro hR0 hap hS) 1 1 rfl rfl (by omega) (by decide) dX8_block_53 ?_
        refine lv_bipush (v := 8) hx hb dX8_block_54 (by decide) ?_
        refine lv_ishl hx hb dX8_block_56 ?_
        refine lv_ior hx hb dX8_block_57 ?_
        refine lv_topi (fun v12 ev12 => ?_)
        refine lv_aload_n hx hb dX8_block_58 rfl (lv_at hl 1 rfl) ?_
        refine va_get (D := E.1) (ci := 9) (v := .ref (ad 29)) (C := RX8) (T := TX8) (N := 41) hx hb hts hiX8 hown hev.1 (xro hR0 hap hS) 0 rfl rfl 29 (by decide) hf87 (fun _ h9 => h9) rfl dX8_block_59 ?_
        refine lv_iload_n hx hb dX8_block_62 rfl (lv_at hl 2 rfl) ?_
        refine lv_iconst (v := 4) hx hb dX8_block_63 (by decide) ?_
        refine lv_iload_n hx hb dX8_block_64 rfl (lv_at hl 0 rfl) ?_
        refine lv_imul hx hb dX8_block_65 ?_
        refine xtop (y := nI (4 * i)) (pk_mul _ _) ?_
        refine lv_iadd hx hb dX8_block_66 ?_
        refine xtop (y := nI (b + (4 * i))) ((nI_add b (4 * i)).trans (congrArg nI (by omega))) ?_
        refine lv_iconst (v := 3) hx hb dX8_block_67 (by decide) ?_
        refine lv_iadd hx hb dX8_block_68 ?_
        refine xtop (y := nI (b + (4 * i) + 3)) ((nI_add (b + (4 * i)) 3).trans (congrArg nI (by omega))) ?_
        refine xiald (k := (b + (4 * i) + 3)) hx hb hev.1 (xro hR0 hap hS) 1 1 rfl rfl (by omega) (by decide) dX8_block_69 ?_
        refine lv_ior hx hb dX8_block_70 ?_
        refine xiast (k := i) hx hb hev.1 hP hD hS 0 1 rfl rfl (by omega) (by decide) dX8_block_71 (fun H locs hP hD hS => ?_)
        obtain ⟨f13, ef13⟩ : ∃ y9_ : Nat → Int32, y9_ = upd g34 i (v12 ||| (a29 (b + (4 * i) + 3))) := ⟨_, rfl⟩
        rw [← ef13] at hP hD
        have hP : va_P E.1 vwCl [(ad 34, aI E 16 f13), (ad 35, aI E 8 a35), (ad 36, aI E 8 a36)] H := hP
        have hD : va_D A [(ad 34, aI E 16 f13), (ad 35, aI E 8 a35), (ad 36, aI E 8 a36)] := hD
        refine lv_iinc (v := nI (i + 1)) (lv' := [(2, .int (nI (i + 1))), (0, .ref m), (1, .int (nI b))]) hx hb dX8_block_72 hl (k := 0) rfl ((nI_add i 1).trans (congrArg nI (by omega))) (by decide) rfl (fun ls hl => ?_)
        refine lv_goto (tgt := 2) hx hb dX8_block_75 (by decide) ?_
        exact ih  (i + 1) f13 (by omega) (lt_s (fun j hj => by rw [ef13, upd_ne (by omega)]; exact hg j hj) (by rw [ef13, upd_self]; subst_vars; rfl)) (by omega) _ _ hP hD hS ls (lv_sub hl [0, 1, 2] rfl)
  exact loop2 17 0 a34 (by omega) (fun _ h9 => absurd h9 (by omega)) (by omega) _ _ hP hD hS ls (lv_sub hl [0, 1, 2] rfl)
