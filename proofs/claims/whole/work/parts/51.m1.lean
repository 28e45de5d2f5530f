abbrev pX8_turned (E : xE) (a : Int32) (b : Int32) (r : Int32) (w : va_W) : Prop := w = [] ∧ r = turn a b ∧ (True)
set_option maxHeartbeats 4000000 in
set_option maxRecDepth 100000 in
theorem kX8_turned (l : Launch) (E : xE) (a : Int32) (b : Int32)  : KT l yX8_turned wsX8_turned 0 0 0 0 E [] [] [.int a, .int b] (QI E (pX8_turned E a b)) := by
  refine KT.start (cc := cX8_turned) (maxL := 2) (ret := (some .int)) (by decide) rfl (Nat.le_of_ble_eq_true rfl) ?_
  intro p e s m below meth c A H hx hb hr hlocks hml hts hown hin hP hR0 hD hap hev hz hA hS ls hl
  have hl : lv_has ls 2 [(0, .int a), (1, .int b)] := hl
  refine lv_iload_n hx hb dX8_turned_0 rfl (lv_at hl 0 rfl) ?_
  refine lv_iload_n hx hb dX8_turned_1 rfl (lv_at hl 1 rfl) ?_
  refine lv_iushr (v := (a.toUInt32 >>> (b.toUInt32 &&& Int32.toUInt32 31)).toInt32) hx hb dX8_turned_2 rfl ?_
  refine lv_iload_n hx hb dX8_turned_3 rfl (lv_at hl 0 rfl) ?_
  refine lv_bipush (v := 32) hx hb dX8_turned_4 (by decide) ?_
  refine lv_iload_n hx hb dX8_turned_6 rfl (lv_at hl 1 rfl) ?_
  refine lv_isub hx hb dX8_turned_7 ?_
  refine lv_ishl hx hb dX8_turned_8 ?_
  refine lv_ior hx hb dX8_turned_9 ?_
  refine lv_topi (fun v1 ev1 => ?_)
  refine xri hx hb hr hlocks hP hD hS ⟨rfl, ?_, ?_⟩ dX8_turned_10
  · first | rfl | (subst_vars; rfl)
  · trivial

abbrev pX8_put1 (E : xE) (mo : Nat) (ad : Nat → Nat) (th : Int32) (kn : Nat) (rn : Nat) (mn : Nat) (dp : Nat) (a29 : Nat → Int32) (v : Int64) (w : va_W) : Prop := ∃ (g : Nat → Int32), w = [(mo, .inr (9, mOb ad th (nI kn) (nI rn) (nI (mn + 1)) (nI dp))), (ad 29, aI E 256 g)] ∧ (g = ap a29 mn (uB1 v))
set_option maxHeartbeats 4000000 in
set_option maxRecDepth 100000 in
theorem kX8_put1 (l : Launch) (E : xE) (mo : Nat) (ad : Nat → Nat) (th : Int32) (kn : Nat) (rn : Nat) (mn : Nat) (dp : Nat) (a29 : Nat → Int32) (v : Int64) (hmn : mn + 1 ≤ 256) : KT l yX8_put wsX8_put 0 0 0 0 E [(mo, .inr (9, mOb ad th (nI kn) (nI rn) (nI mn) (nI dp))), (ad 29, aI E 256 a29)] [] [.ref mo, .long v, .int 1] (QV E (pX8_put1 E mo ad th kn rn mn dp a29 v)) := by
  refine KT.start (cc := cX8_put) (maxL := 5) (ret := none) (by decide) rfl (Nat.le_of_ble_eq_true rfl) ?_
  intro p e s m below meth c A H hx hb hr hlocks hml hts hown hin hP hR0 hD hap hev hz hA hS ls hl
  have hl : lv_has ls 5 [(0, .ref mo), (1, .long v), (3, .int 1)] := hl
  have hiX8 : ∀ w ∈ wsX80, w ∈ wsX8_put := fun _ h => List.mem_cons_of_mem _ (List.mem_append_right _ h)
  have hf206 := hts (.fieldLink RX8 206 "SignQuorumModel" "many" "I") (by decide +kernel)
  have hf87 := hts (.fieldLink RX8 87 "SignQuorumModel" "bytes" "[I") (by decide +kernel)
  have hk209 := hts (.constantLong RX8 209 (255)) (by decide +kernel)
  refine lv_bipush (v := 8) hx hb dX8_put_0 (by decide) ?_
  refine lv_iload_n hx hb dX8_put_2 rfl (lv_at hl 2 rfl) ?_
  refine lv_imul hx hb dX8_put_3 ?_
  refine xtop (y := 8) (by decide) ?_
  refine lv_bipush (v := 8) hx hb dX8_put_4 (by decide) ?_
  refine lv_isub hx hb dX8_put_6 ?_
  refine xtop (y := 0) (by decide) ?_
  refine lv_istore (lv' := [(4, .int 0), (0, .ref mo), (1, .long v), (3, .int 1)]) hx hb dX8_put_7 hl (by decide) rfl (fun ls hl => ?_)
  refine lv_iload hx hb dX8_put_9 (lv_at hl 0 rfl) ?_
  refine lv_if_lt (tgt := 48) hx hb dX8_put_11 (by decide) (fun c1 => absurd c1 (by decide)) (fun c1 => ?_)
  refine lv_aload_n hx hb dX8_put_14 rfl (lv_at hl 1 rfl) ?_
  refine xgt TX8_29 (v := .ref (ad 29)) hx hb hts hiX8 hown hev.1 hP 0 rfl (by decide) hf87 rfl dX8_put_15 ?_
  refine lv_aload_n hx hb dX8_put_18 rfl (lv_at hl 1 rfl) ?_
  refine xgt TX8_28 (v := .int (nI mn)) hx hb hts hiX8 hown hev.1 hP 0 rfl (by decide) hf206 rfl dX8_put_19 ?_
  refine lv_lload_n hx hb dX8_put_22 rfl (lv_at hl 2 rfl) ?_
  refine lv_iload hx hb dX8_put_23 (lv_at hl 0 rfl) ?_
  refine lv_lshr (v := v >>> ((0 : Int32).toInt64 &&& 63)) hx hb dX8_put_25 rfl ?_
  refine lv_ldc2 hx hb hown hk209 dX8_put_26 ?_
  refine lv_land hx hb dX8_put_29 ?_
  refine lv_l2i (v := ((v >>> ((0 : Int32).toInt64 &&& 63)) &&& 255).toInt32) hx hb dX8_put_30 rfl ?_
  refine xiast (k := mn) hx hb hev.1 hP hD hS 1 1 rfl rfl (by omega) (by decide) dX8_put_31 (fun H locs hP hD hS => ?_)
  obtain ⟨f2, ef2⟩ : ∃ y9_ : Nat → Int32, y9_ = upd a29 mn (((v >>> ((0 : Int32).toInt64 &&& 63)) &&& 255).toInt32) := ⟨_, rfl⟩
  rw [← ef2] at hP hD
  have hP : va_P E.1 vwCl [(mo, .inr (9, mOb ad th (nI kn) (nI rn) (nI mn) (nI dp))), (ad 29, aI E 256 f2)] H := hP
  have hD : va_D A [(mo, .inr (9, mOb ad th (nI kn) (nI rn) (nI mn) (nI dp))), (ad 29, aI E 256 f2)] := hD
  refine lv_aload_n hx hb dX8_put_32 rfl (lv_at hl 1 rfl) ?_
  refine lv_dup hx hb dX8_put_33 rfl ?_
  refine xgt TX8_28 (v := .int (nI mn)) hx hb hts hiX8 hown hev.1 hP 0 rfl (by decide) hf206 rfl dX8_put_34 ?_
  refine lv_iconst (v := 1) hx hb dX8_put_37 (by decide) ?_
  refine lv_iadd hx hb dX8_put_38 ?_
  refine xtop (y := nI (mn + 1)) ((nI_add mn 1).trans (congrArg nI (by omega))) ?_
  refine xpt TX8_28 (v := (nI (mn + 1))) hx hb hts hiX8 hown hev.1 hP hD hS 0 rfl (by decide) hf206 (Nat.le_of_ble_eq_true rfl) dX8_put_39 (fun H locs hP hD hS => ?_)
  have hP : va_P E.1 vwCl [(mo, .inr (9, mOb ad th (nI kn) (nI rn) (nI (mn + 1)) (nI dp))), (ad 29, aI E 256 f2)] H := hP
  have hD : va_D A [(mo, .inr (9, mOb ad th (nI kn) (nI rn) (nI (mn + 1)) (nI dp))), (ad 29, aI E 256 f2)] := hD
  refine lv_iinc (v := (-8)) (lv' := [(4, .int (-8)), (0, .ref mo), (1, .long v), (3, .int 1)]) hx hb dX8_put_42 hl (k := 0) rfl (by decide) (by decide) rfl (fun ls hl => ?_)
  refine lv_goto (tgt := 9) hx hb dX8_put_45 (by decide) ?_
  refine lv_iload hx hb dX8_put_9 (lv_at hl 0 rfl) ?_
  refine lv_if_lt (tgt := 48) hx hb dX8_put_11 (by decide) (fun c3 => ?_) (fun c3 => absurd (by decide) c3)
  refine xrv hx hb hr hlocks hP hD hS ⟨f2, rfl, ?_⟩ dX8_put_48
  have b0 : f2 = ap a29 mn [ub v 0] := ef2
  exact b0

abbrev pX8_put4 (E : xE) (mo : Nat) (ad : Nat → Nat) (th : Int32) (kn : Nat) (rn : Nat) (mn : Nat) (dp : Nat) (a29 : Nat → Int32) (v : Int64) (w : va_W) : Prop := ∃ (g : Nat → Int32), w = [(mo, .inr (9, mOb ad th (nI kn) (nI rn) (nI (mn + 4)) (nI dp))), (ad 29, aI E 256 g)] ∧ (g = ap a29 mn (uB4 v))
set_option maxHeartbeats 4000000 in
set_option maxRecDepth 100000 in
theorem kX8_put4 (l : Launch) (E : xE) (mo : Nat) (ad : Nat → Nat) (th : Int32) (kn : Nat) (rn : Nat) (mn : Nat) (dp : Nat) (a29 : Nat → Int32) (v : Int64) (hmn : mn + 4 ≤ 256) : KT l yX8_put wsX8_put 0 0 0 0 E [(mo, .inr (9, mOb ad th (nI kn) (nI rn) (nI mn) (nI dp))), (ad 29, aI E 256 a29)] [] [.ref mo, .long v, .int 4] (QV E (pX8_put4 E mo ad th kn rn mn dp a29 v)) := by
  refine KT.start (cc := cX8_put) (maxL := 5) (ret := none) (by decide) rfl (Nat.le_of_ble_eq_true rfl) ?_
  intro p e s m below meth c A H hx hb hr hlocks hml hts hown hin hP hR0 hD hap hev hz hA hS ls hl
  have hl : lv_has ls 5 [(0, .ref mo), (1, .long v), (3, .int 4)] := hl
  have hiX8 : ∀ w ∈ wsX80, w ∈ wsX8_put := fun _ h => List.mem_cons_of_mem _ (List.mem_append_right _ h)
  have hf206 := hts (.fieldLink RX8 206 "SignQuorumModel" "many" "I") (by decide +kernel)
  have hf87 := hts (.fieldLink RX8 87 "SignQuorumModel" "bytes" "[I") (by decide +kernel)
  have hk209 := hts (.constantLong RX8 209 (255)) (by decide +kernel)
  refine lv_bipush (v := 8) hx hb dX8_put_0 (by decide) ?_
  refine lv_iload_n hx hb dX8_put_2 rfl (lv_at hl 2 rfl) ?_
  refine lv_imul hx hb dX8_put_3 ?_
  refine xtop (y := 32) (by decide) ?_
  refine lv_bipush (v := 8) hx hb dX8_put_4 (by decide) ?_
  refine lv_isub hx hb dX8_put_6 ?_
  refine xtop (y := 24) (by decide) ?_
  refine lv_istore (lv' := [(4, .int 24), (0, .ref mo), (1, .long v), (3, .int 4)]) hx hb dX8_put_7 hl (by decide) rfl (fun ls hl => ?_)
  refine lv_iload hx hb dX8_put_9 (lv_at hl 0 rfl) ?_
  refine lv_if_lt (tgt := 48) hx hb dX8_put_11 (by decide) (fun c1 => absurd c1 (by decide)) (fun c1 => ?_)
  refine lv_aload_n hx hb dX8_put_14 rfl (lv_at hl 1 rfl) ?_
  refine xgt TX8_29 (v := .ref (ad 29)) hx hb hts hiX8 hown hev.1 hP 0 rfl (by decide) hf87 rfl dX8_put_15 ?_
  refine lv_aload_n hx hb dX8_put_18 rfl (lv_at hl 1 rfl) ?_
  refine xgt TX8_28 (v := .int (nI mn)) hx hb hts hiX8 hown hev.1 hP 0 rfl (by decide) hf206 rfl dX8_put_19 ?_
  refine lv_lload_n hx hb dX8_put_22 rfl (lv_at hl 2 rfl) ?_
  refine lv_iload hx hb dX8_put_23 (lv_at hl 0 rfl) ?_
  refine lv_lshr (v := v >>> ((24 : Int32).toInt64 &&& 63)) hx hb dX8_put_25 rfl ?_
  refine lv_ldc2 hx hb hown hk209 dX8_put_26 ?_
  refine lv_land hx hb dX8_put_29 ?_
  refine lv_l2i (v := ((v >>> ((24 : Int32).toInt64 &&& 63)) &&& 255).toInt32) hx hb dX8_put_30 rfl ?_
  refine xiast (k := mn) hx hb hev.1 hP hD hS 1 1 rfl rfl (by omega) (by decide) dX8_put_31 (fun H locs hP hD hS => ?_)
  obtain ⟨f2, ef2⟩ : ∃ y9_ : Nat → Int32, y9_ = upd a29 mn (((v >>> ((24 : Int32).toInt64 &&& 63)) &&& 255).toInt32) := ⟨_, rfl⟩
  rw [← ef2] at hP hD
  have hP : va_P E.1 vwCl [(mo, .inr (9, mOb ad th (nI kn) (nI rn) (nI mn) (nI dp))), (ad 29, aI E 256 f2)] H := hP
  have hD : va_D A [(mo, .inr (9, mOb ad th (nI kn) (nI rn) (nI mn) (nI dp))), (ad 29, aI E 256 f2)] := hD
  refine lv_aload_n hx hb dX8_put_32 rfl (lv_at hl 1 rfl) ?_
  refine lv_dup hx hb dX8_put_33 rfl ?_
  refine xgt TX8_28 (v := .int (nI mn)) hx hb hts hiX8 hown hev.1 hP 0 rfl (by decide) hf206 rfl dX8_put_34 ?_
  refine lv_iconst (v := 1) hx hb dX8_put_37 (by decide) ?_
  refine lv_iadd hx hb dX8_put_38 ?_
  refine xtop (y := nI (mn + 1)) ((nI_add mn 1).trans (congrArg nI (by omega))) ?_
  refine xpt TX8_28 (v := (nI (mn + 1))) hx hb hts hiX8 hown hev.1 hP hD hS 0 rfl (by decide) hf206 (Nat.le_of_ble_eq_true rfl) dX8_put_39 (fun H locs hP hD hS => ?_)
  have hP : va_P E.1 vwCl [(mo, .inr (9, mOb ad th (nI kn) (nI rn) (nI (mn + 1)) (nI dp))), (ad 29, aI E 256 f2)] H := hP
  have hD : va_D A [(mo, .inr (9, mOb ad th (nI kn) (nI rn) (nI (mn + 1)) (nI dp))), (ad 29, aI E 256 f2)] := hD
  refine lv_iinc (v := 16) (lv' := [(4, .int 16), (0, .ref mo), (1, .long v), (3, .int 4)]) hx hb dX8_put_42 hl (k := 0) rfl (by decide) (by decide) rfl (fun ls hl => ?_)
  refine lv_goto (tgt := 9) hx hb dX8_put_45 (by decide) ?_
  refine lv_iload hx hb dX8_put_9 (lv_at hl 0 rfl) ?_
  refine lv_if_lt (tgt := 48) hx hb dX8_put_11 (by decide) (fun c3 => absurd c3 (by decide)) (fun c3 => ?_)
  refine lv_aload_n hx hb dX8_put_14 rfl (lv_at hl 1 rfl) ?_
  refine xgt TX8_29 (v := .ref (ad 29)) hx hb hts hiX8 hown hev.1 hP 0 rfl (by decide) hf87 rfl dX8_put_15 ?_
  refine lv_aload_n hx hb dX8_put_18 rfl (lv_at hl 1 rfl) ?_
  refine xgt TX8_28 (v := .int (nI (mn + 1))) hx hb hts hiX8 hown hev.1 hP 0 rfl (by decide) hf206 rfl dX8_put_19 ?_
  refine lv_lload_n hx hb dX8_put_22 rfl (lv_at hl 2 rfl) ?_
  refine lv_iload hx hb dX8_put_23 (lv_at hl 0 rfl) ?_
  refine lv_lshr (v := v >>> ((16 : Int32).toInt64 &&& 63)) hx hb dX8_put_25 rfl ?_
  refine lv_ldc2 hx hb hown hk209 dX8_put_26 ?_
  refine lv_land hx hb dX8_put_29 ?_
  refine lv_l2i (v := ((v >>> ((16 : Int32).toInt64 &&& 63)) &&& 255).toInt32) hx hb dX8_put_30 rfl ?_
  refine xiast (k := mn + 1) hx hb hev.1 hP hD hS 1 1 rfl rfl (by omega) (by decide) dX8_put_31 (fun H locs hP hD hS => ?_)
  obtain ⟨f4, ef4⟩ : ∃ y9_ : Nat → Int32, y9_ = upd f2 (mn + 1) (((v >>> ((16 : Int32).toInt64 &&& 63)) &&& 255).toInt32) := ⟨_, rfl⟩
  rw [← ef4] at hP hD
  have hP : va_P E.1 vwCl [(mo, .inr (9, mOb ad th (nI kn) (nI rn) (nI (mn + 1)) (nI dp))), (ad 29, aI E 256 f4)] H := hP
  have hD : va_D A [(mo, .inr (9, mOb ad th (nI kn) (nI rn) (nI (mn + 1)) (nI dp))), (ad 29, aI E 256 f4)] := hD
  refine lv_aload_n hx hb dX8_put_32 rfl (lv_at hl 1 rfl) ?_
  refine lv_dup hx hb dX8_put_33 rfl ?_
  refine xgt TX8_28 (v := .int (nI (mn + 1))) hx hb hts hiX8 hown hev.1 hP 0 rfl (by decide) hf206 rfl dX8_put_34 ?_
  refine lv_iconst (v := 1) hx hb dX8_put_37 (by decide) ?_
  refine lv_iadd hx hb dX8_put_38 ?_
  refine xtop (y := nI (mn + 2)) ((nI_add (mn + 1) 1).trans (congrArg nI (by omega))) ?_
  refine xpt TX8_28 (v := (nI (mn + 2))) hx hb hts hiX8 hown hev.1 hP hD hS 0 rfl (by decide) hf206 (Nat.le_of_ble_eq_true rfl) dX8_put_39 (fun H locs hP hD hS => ?_)
  have hP : va_P E.1 vwCl [(mo, .inr (9, mOb ad th (nI kn) (nI rn) (nI (mn + 2)) (nI dp))), (ad 29, aI E 256 f4)] H := hP
  have hD : va_D A [(mo, .inr (9, mOb ad th (nI kn) (nI rn) (nI (mn + 2)) (nI dp))), (ad 29, aI E 256 f4)] := hD
  refine lv_iinc (v := 8) (lv' := [(4, .int 8), (0, .ref mo), (1, .long v), (3, .int 4)]) hx hb dX8_put_42 hl (k := 0) rfl (by decide) (by decide) rfl (fun ls hl => ?_)
  refine lv_goto (tgt := 9) hx hb dX8_put_45 (by decide) ?_
  refine lv_iload hx hb dX8_put_9 (lv_at hl 0 rfl) ?_
  refine lv_if_lt (tgt := 48) hx hb dX8_put_11 (by decide) (fun c5 => absurd c5 (by decide)) (fun c5 => ?_)
  refine lv_aload_n hx hb dX8_put_14 rfl (lv_at hl 1 rfl) ?_
  refine xgt TX8_29 (v := .ref (ad 29)) hx hb hts hiX8 hown hev.1 hP 0 rfl (by decide) hf87 rfl dX8_put_15 ?_
  refine lv_aload_n hx hb dX8_put_18 rfl (lv_at hl 1 rfl) ?_
  refine xgt TX8_28 (v := .int (nI (mn + 2))) hx hb hts hiX8 hown hev.1 hP 0 rfl (by decide) hf206 rfl dX8_put_19 ?_
  refine lv_lload_n hx hb dX8_put_22 rfl (lv_at hl 2 rfl) ?_
  refine lv_iload hx hb dX8_put_23 (lv_at hl 0 rfl) ?_
  refine lv_lshr (v := v >>> ((8 : Int32).toInt64 &&& 63)) hx hb dX8_put_25 rfl ?_
  refine lv_ldc2 hx hb hown hk209 dX8_put_26 ?_
  refine lv_land hx hb dX8_put_29 ?_
  refine lv_l2i (v := ((v >>> ((8 : Int32).toInt64 &&& 63)) &&& 255).toInt32) hx hb dX8_put_30 rfl ?_
  refine xiast (k := mn + 2) hx hb hev.1 hP hD hS 1 1 rfl rfl (by omega) (by decide) dX8_put_31 (fun H locs hP hD hS => ?_)
  obtain ⟨f6, ef6⟩ : ∃ y9_ : Nat → Int32, y9_ = upd f4 (mn + 2) (((v >>> ((8 : Int32).toInt64 &&& 63)) &&& 255).toInt32) := ⟨_, rfl⟩
  rw [← ef6] at hP hD
  have hP : va_P E.1 vwCl [(mo, .inr (9, mOb ad th (nI kn) (nI rn) (nI (mn + 2)) (nI dp))), (ad 29, aI E 256 f6)] H := hP
  have hD : va_D A [(mo, .inr (9, mOb ad th (nI kn) (nI rn) (nI (mn + 2)) (nI dp))), (ad 29, aI E 256 f6)] := hD
  refine lv_aload_n hx hb dX8_put_32 rfl (lv_at hl 1 rfl) ?_
  refine lv_dup hx hb dX8_put_33 rfl ?_
  refine xgt TX8_28 (v := .int (nI (mn + 2))) hx hb hts hiX8 hown hev.1 hP 0 rfl (by decide) hf206 rfl dX8_put_34 ?_
  refine lv_iconst (v := 1) hx hb dX8_put_37 (by decide) ?_
  refine lv_iadd hx hb dX8_put_38 ?_
  refine xtop (y := nI (mn + 3)) ((nI_add (mn + 2) 1).trans (congrArg nI (by omega))) ?_
  refine xpt TX8_28 (v := (nI (mn + 3))) hx hb hts hiX8 hown hev.1 hP hD hS 0 rfl (by decide) hf206 (Nat.le_of_ble_eq_true rfl) dX8_put_39 (fun H locs hP hD hS => ?_)
  have hP : va_P E.1 vwCl [(mo, .inr (9, mOb ad th (nI kn) (nI rn) (nI (mn + 3)) (nI dp))), (ad 29, aI E 256 f6)] H := hP
  have hD : va_D A [(mo, .inr (9, mOb ad th (nI kn) (nI rn) (nI (mn + 3)) (nI dp))), (ad 29, aI E 256 f6)] := hD
  refine lv_iinc (v := 0) (lv' := [(4, .int 0), (0, .ref mo), (1, .long v), (3, .int 4)]) hx hb dX8_put_42 hl (k := 0) rfl (by decide) (by decide) rfl (fun ls hl => ?_)
  refine lv_goto (tgt := 9) hx hb dX8_put_45 (by decide) ?_
  refine lv_iload hx hb dX8_put_9 (lv_at hl 0 rfl) ?_
  refine lv_if_lt (tgt := 48) hx hb dX8_put_11 (by decide) (fun c7 => absurd c7 (by decide)) (fun c7 => ?_)
  refine lv_aload_n hx hb dX8_put_14 rfl (lv_at hl 1 rfl) ?_
  refine xgt TX8_29 (v := .ref (ad 29)) hx hb hts hiX8 hown hev.1 hP 0 rfl (by decide) hf87 rfl dX8_put_15 ?_
  refine lv_aload_n hx hb dX8_put_18 rfl (lv_at hl 1 rfl) ?_
  refine xgt TX8_28 (v := .int (nI (mn + 3))) hx hb hts hiX8 hown hev.1 hP 0 rfl (by decide) hf206 rfl dX8_put_19 ?_
  refine lv_lload_n hx hb dX8_put_22 rfl (lv_at hl 2 rfl) ?_
  refine lv_iload hx hb dX8_put_23 (lv_at hl 0 rfl) ?_
  refine lv_lshr (v := v >>> ((0 : Int32).toInt64 &&& 63)) hx hb dX8_put_25 rfl ?_
  refine lv_ldc2 hx hb hown hk209 dX8_put_26 ?_
  refine lv_land hx hb dX8_put_29 ?_
  refine lv_l2i (v := ((v >>> ((0 : Int32).toInt64 &&& 63)) &&& 255).toInt32) hx hb dX8_put_30 rfl ?_
  refine xiast (k := mn + 3) hx hb hev.1 hP hD hS 1 1 rfl rfl (by omega) (by decide) dX8_put_31 (fun H locs hP hD hS => ?_)
  obtain ⟨f8, ef8⟩ : ∃ y9_ : Nat → Int32, y9_ = upd f6 (mn + 3) (((v >>> ((0 : Int32).toInt64 &&& 63)) &&& 255).toInt32) := ⟨_, rfl⟩
  rw [← ef8] at hP hD
  have hP : va_P E.1 vwCl [(mo, .inr (9, mOb ad th (nI kn) (nI rn) (nI (mn + 3)) (nI dp))), (ad 29, aI E 256 f8)] H := hP
  have hD : va_D A [(mo, .inr (9, mOb ad th (nI kn) (nI rn) (nI (mn + 3)) (nI dp))), (ad 29, aI E 256 f8)] := hD
  refine lv_aload_n hx hb dX8_put_32 rfl (lv_at hl 1 rfl) ?_
  refine lv_dup hx hb dX8_put_33 rfl ?_
  refine xgt TX8_28 (v := .int (nI (mn + 3))) hx hb hts hiX8 hown hev.1 hP 0 rfl (by decide) hf206 rfl dX8_put_34 ?_
  refine lv_iconst (v := 1) hx hb dX8_put_37 (by decide) ?_
  refine lv_iadd hx hb dX8_put_38 ?_
  refine xtop (y := nI (mn + 4)) ((nI_add (mn + 3) 1).trans (congrArg nI (by omega))) ?_
  refine xpt TX8_28 (v := (nI (mn + 4))) hx hb hts hiX8 hown hev.1 hP hD hS 0 rfl (by decide) hf206 (Nat.le_of_ble_eq_true rfl) dX8_put_39 (fun H locs hP hD hS => ?_)
  have hP : va_P E.1 vwCl [(mo, .inr (9, mOb ad th (nI kn) (nI rn) (nI (mn + 4)) (nI dp))), (ad 29, aI E 256 f8)] H := hP
  have hD : va_D A [(mo, .inr (9, mOb ad th (nI kn) (nI rn) (nI (mn + 4)) (nI dp))), (ad 29, aI E 256 f8)] := hD
  refine lv_iinc (v := (-8)) (lv' := [(4, .int (-8)), (0, .ref mo), (1, .long v), (3, .int 4)]) hx hb dX8_put_42 hl (k := 0) rfl (by decide) (by decide) rfl (fun ls hl => ?_)
  refine lv_goto (tgt := 9) hx hb dX8_put_45 (by decide) ?_
  refine lv_iload hx hb dX8_put_9 (lv_at hl 0 rfl) ?_
  refine lv_if_lt (tgt := 48) hx hb dX8_put_11 (by decide) (fun c9 => ?_) (fun c9 => absurd (by decide) c9)
  refine xrv hx hb hr hlocks hP hD hS ⟨f8, rfl, ?_⟩ dX8_put_48
  have b0 : f2 = ap a29 mn [ub v 24] := ef2
  have b1 : f4 = ap a29 mn ([ub v 24] ++ [ub v 16]) := ap_step b0 (show f4 = ap f2 (mn + 1) [ub v 16] from ef4) rfl
  have b2 : f6 = ap a29 mn (([ub v 24] ++ [ub v 16]) ++ [ub v 8]) := ap_step b1 (show f6 = ap f4 (mn + 2) [ub v 8] from ef6) rfl
  have b3 : f8 = ap a29 mn ((([ub v 24] ++ [ub v 16]) ++ [ub v 8]) ++ [ub v 0]) := ap_step b2 (show f8 = ap f6 (mn + 3) [ub v 0] from ef8) rfl
  exact b3

abbrev pX8_put8 (E : xE) (mo : Nat) (ad : Nat → Nat) (th : Int32) (kn : Nat) (rn : Nat) (mn : Nat) (dp : Nat) (a29 : Nat → Int32) (v : Int64) (w : va_W) : Prop := ∃ (g : Nat → Int32), w = [(mo, .inr (9, mOb ad th (nI kn) (nI rn) (nI (mn + 8)) (nI dp))), (ad 29, aI E 256 g)] ∧ (g = ap a29 mn (uB8 v))
set_option maxHeartbeats 4000000 in
set_option maxRecDepth 100000 in
theorem kX8_put8 (l : Launch) (E : xE) (mo : Nat) (ad : Nat → Nat) (th : Int32) (kn : Nat) (rn : Nat) (mn : Nat) (dp : Nat) (a29 : Nat → Int32) (v : Int64) (hmn : mn + 8 ≤ 256) : KT l yX8_put wsX8_put 0 0 0 0 E [(mo, .inr (9, mOb ad th (nI kn) (nI rn) (nI mn) (nI dp))), (ad 29, aI E 256 a29)] [] [.ref mo, .long v, .int 8] (QV E (pX8_put8 E mo ad th kn rn mn dp a29 v)) := by
  refine KT.start (cc := cX8_put) (maxL := 5) (ret := none) (by decide) rfl (Nat.le_of_ble_eq_true rfl) ?_
  intro p e s m below meth c A H hx hb hr hlocks hml hts hown hin hP hR0 hD hap hev hz hA hS ls hl
  have hl : lv_has ls 5 [(0, .ref mo), (1, .long v), (3, .int 8)] := hl
  have hiX8 : ∀ w ∈ wsX80, w ∈ wsX8_put := fun _ h => List.mem_cons_of_mem _ (List.mem_append_right _ h)
  have hf206 := hts (.fieldLink RX8 206 "SignQuorumModel" "many" "I") (by decide +kernel)
  have hf87 := hts (.fieldLink RX8 87 "SignQuorumModel" "bytes" "[I") (by decide +kernel)
  have hk209 := hts (.constantLong RX8 209 (255)) (by decide +kernel)
  refine lv_bipush (v := 8) hx hb dX8_put_0 (by decide) ?_
  refine lv_iload_n hx hb dX8_put_2 rfl (lv_at hl 2 rfl) ?_
  refine lv_imul hx hb dX8_put_3 ?_
  refine xtop (y := 64) (by decide) ?_
  refine lv_bipush (v := 8) hx hb dX8_put_4 (by decide) ?_
  refine lv_isub hx hb dX8_put_6 ?_
  refine xtop (y := 56) (by decide) ?_
  refine lv_istore (lv' := [(4, .int 56), (0, .ref mo), (1, .long v), (3, .int 8)]) hx hb dX8_put_7 hl (by decide) rfl (fun ls hl => ?_)
  refine lv_iload hx hb dX8_put_9 (lv_at hl 0 rfl) ?_
  refine lv_if_lt (tgt := 48) hx hb dX8_put_11 (by decide) (fun c1 => absurd c1 (by decide)) (fun c1 => ?_)
  refine lv_aload_n hx hb dX8_put_14 rfl (lv_at hl 1 rfl) ?_
  refine xgt TX8_29 (v := .ref (ad 29)) hx hb hts hiX8 hown hev.1 hP 0 rfl (by decide) hf87 rfl dX8_put_15 ?_
  refine lv_aload_n hx hb dX8_put_18 rfl (lv_at hl 1 rfl) ?_
  refine xgt TX8_28 (v := .int (nI mn)) hx hb hts hiX8 hown hev.1 hP 0 rfl (by decide) hf206 rfl dX8_put_19 ?_
  refine lv_lload_n hx hb dX8_put_22 rfl (lv_at hl 2 rfl) ?_
  refine lv_iload hx hb dX8_put_23 (lv_at hl 0 rfl) ?_
  refine lv_lshr (v := v >>> ((56 : Int32).toInt64 &&& 63)) hx hb dX8_put_25 rfl ?_
  refine lv_ldc2 hx hb hown hk209 dX8_put_26 ?_
  refine lv_land hx hb dX8_put_29 ?_
  refine lv_l2i (v := ((v >>> ((56 : Int32).toInt64 &&& 63)) &&& 255).toInt32) hx hb dX8_put_30 rfl ?_
  refine xiast (k := mn) hx hb hev.1 hP hD hS 1 1 rfl rfl (by omega) (by decide) dX8_put_31 (fun H locs hP hD hS => ?_)
  obtain ⟨f2, ef2⟩ : ∃ y9_ : Nat → Int32, y9_ = upd a29 mn (((v >>> ((56 : Int32).toInt64 &&& 63)) &&& 255).toInt32) := ⟨_, rfl⟩
  rw [← ef2] at hP hD
  have hP : va_P E.1 vwCl [(mo, .inr (9, mOb ad th (nI kn) (nI rn) (nI mn) (nI dp))), (ad 29, aI E 256 f2)] H := hP
  have hD : va_D A [(mo, .inr (9, mOb ad th (nI kn) (nI rn) (nI mn) (nI dp))), (ad 29, aI E 256 f2)] := hD
  refine lv_aload_n hx hb dX8_put_32 rfl (lv_at hl 1 rfl) ?_
  refine lv_dup hx hb dX8_put_33 rfl ?_
  refine xgt TX8_28 (v := .int (nI mn)) hx hb hts hiX8 hown hev.1 hP 0 rfl (by decide) hf206 rfl dX8_put_34 ?_
  refine lv_iconst (v := 1) hx hb dX8_put_37 (by decide) ?_
  refine lv_iadd hx hb dX8_put_38 ?_
  refine xtop (y := nI (mn + 1)) ((nI_add mn 1).trans (congrArg nI (by omega))) ?_
  refine xpt TX8_28 (v := (nI (mn + 1))) hx hb hts hiX8 hown hev.1 hP hD hS 0 rfl (by decide) hf206 (Nat.le_of_ble_eq_true rfl) dX8_put_39 (fun H locs hP hD hS => ?_)
  have hP : va_P E.1 vwCl [(mo, .inr (9, mOb ad th (nI kn) (nI rn) (nI (mn + 1)) (nI dp))), (ad 29, aI E 256 f2)] H := hP
  have hD : va_D A [(mo, .inr (9, mOb ad th (nI kn) (nI rn) (nI (mn + 1)) (nI dp))), (ad 29, aI E 256 f2)] := hD
  refine lv_iinc (v := 48) (lv' := [(4, .int 48), (0, .ref mo), (1, .long v), (3, .int 8)]) hx hb dX8_put_42 hl (k := 0) rfl (by decide) (by decide) rfl (fun ls hl => ?_)
  refine lv_goto (tgt := 9) hx hb dX8_put_45 (by decide) ?_
  refine lv_iload hx hb dX8_put_9 (lv_at hl 0 rfl) ?_
  refine lv_if_lt (tgt := 48) hx hb dX8_put_11 (by decide) (fun c3 => absurd c3 (by decide)) (fun c3 => ?_)
  refine lv_aload_n hx hb dX8_put_14 rfl (lv_at hl 1 rfl) ?_
  refine xgt TX8_29 (v := .ref (ad 29)) hx hb hts hiX8 hown hev.1 hP 0 rfl (by decide) hf87 rfl dX8_put_15 ?_
  refine lv_aload_n hx hb dX8_put_18 rfl (lv_at hl 1 rfl) ?_
  refine xgt TX8_28 (v := .int (nI (mn + 1))) hx hb hts hiX8 hown hev.1 hP 0 rfl (by decide) hf206 rfl dX8_put_19 ?_
  refine lv_lload_n hx hb dX8_put_22 rfl (lv_at hl 2 rfl) ?_
  refine lv_iload hx hb dX8_put_23 (lv_at hl 0 rfl) ?_
  refine lv_lshr (v := v >>> ((48 : Int32).toInt64 &&& 63)) hx hb dX8_put_25 rfl ?_
  refine lv_ldc2 hx hb hown hk209 dX8_put_26 ?_
  refine lv_land hx hb dX8_put_29 ?_
  refine lv_l2i (v := ((v >>> ((48 : Int32).toInt64 &&& 63)) &&& 255).toInt32) hx hb dX8_put_30 rfl ?_
  refine xiast (k := mn + 1) hx hb hev.1 hP hD hS 1 1 rfl rfl (by omega) (by decide) dX8_put_31 (fun H locs hP hD hS => ?_)
  obtain ⟨f4, ef4⟩ : ∃ y9_ : Nat → Int32, y9_ = upd f2 (mn + 1) (((v >>> ((48 : Int32).toInt64 &&& 63)) &&& 255).toInt32) := ⟨_, rfl⟩
  rw [← ef4] at hP hD
  have hP : va_P E.1 vwCl [(mo, .inr (9, mOb ad th (nI kn) (nI rn) (nI (mn + 1)) (nI dp))), (ad 29, aI E 256 f4)] H := hP
  have hD : va_D A [(mo, .inr (9, mOb ad th (nI kn) (nI rn) (nI (mn + 1)) (nI dp))), (ad 29, aI E 256 f4)] := hD
  refine lv_aload_n hx hb dX8_put_32 rfl (lv_at hl 1 rfl) ?_
  refine lv_dup hx hb dX8_put_33 rfl ?_
  refine xgt TX8_28 (v := .int (nI (mn + 1))) hx hb hts hiX8 hown hev.1 hP 0 rfl (by decide) hf206 rfl dX8_put_34 ?_
  refine lv_iconst (v := 1) hx hb dX8_put_37 (by decide) ?_
  refine lv_iadd hx hb dX8_put_38 ?_
  refine xtop (y := nI (mn + 2)) ((nI_add (mn + 1) 1).trans (congrArg nI (by omega))) ?_
  refine xpt TX8_28 (v := (nI (mn + 2))) hx hb hts hiX8 hown hev.1 hP hD hS 0 rfl (by decide) hf206 (Nat.le_of_ble_eq_true rfl) dX8_put_39 (fun H locs hP hD hS => ?_)
  have hP : va_P E.1 vwCl [(mo, .inr (9, mOb ad th (nI kn) (nI rn) (nI (mn + 2)) (nI dp))), (ad 29, aI E 256 f4)] H := hP
  have hD : va_D A [(mo, .inr (9, mOb ad th (nI kn) (nI rn) (nI (mn + 2)) (nI dp))), (ad 29, aI E 256 f4)] := hD
  refine lv_iinc (v := 40) (lv' := [(4, .int 40), (0, .ref mo), (1, .long v), (3, .int 8)]) hx hb dX8_put_42 hl (k := 0) rfl (by decide) (by decide) rfl (fun ls hl => ?_)
  refine lv_goto (tgt := 9) hx hb dX8_put_45 (by decide) ?_
  refine lv_iload hx hb dX8_put_9 (lv_at hl 0 rfl) ?_
  refine lv_if_lt (tgt := 48) hx hb dX8_put_11 (by decide) (fun c5 => absurd c5 (by decide)) (fun c5 => ?_)
  refine lv_aload_n hx hb dX8_put_14 rfl (lv_at hl 1 rfl) ?_
  refine xgt TX8_29 (v := .ref (ad 29)) hx hb hts hiX8 hown hev.1 hP 0 rfl (by decide) hf87 rfl dX8_put_15 ?_
  refine lv_aload_n hx hb dX8_put_18 rfl (lv_at hl 1 rfl) ?_
  refine xgt TX8_28 (v := .int (nI (mn + 2))) hx hb hts hiX8 hown hev.1 hP 0 rfl (by decide) hf206 rfl dX8_put_19 ?_
  refine lv_lload_n hx hb dX8_put_22 rfl (lv_at hl 2 rfl) ?_
  refine lv_iload hx hb dX8_put_23 (lv_at hl 0 rfl) ?_
  refine lv_lshr (v := v >>> ((40 : Int32).toInt64 &&& 63)) hx hb dX8_put_25 rfl ?_
  refine lv_ldc2 hx hb hown hk209 dX8_put_26 ?_
  refine lv_land hx hb dX8_put_29 ?_
  refine lv_l2i (v := ((v >>> ((40 : Int32).toInt64 &&& 63)) &&& 255).toInt32) hx hb dX8_put_30 rfl ?_
  refine xiast (k := mn + 2) hx hb hev.1 hP hD hS 1 1 rfl rfl (by omega) (by decide) dX8_put_31 (fun H locs hP hD hS => ?_)
  obtain ⟨f6, ef6⟩ : ∃ y9_ : Nat → Int32, y9_ = upd f4 (mn + 2) (((v >>> ((40 : Int32).toInt64 &&& 63)) &&& 255).toInt32) := ⟨_, rfl⟩
  rw [← ef6] at hP hD
  have hP : va_P E.1 vwCl [(mo, .inr (9, mOb ad th (nI kn) (nI rn) (nI (mn + 2)) (nI dp))), (ad 29, aI E 256 f6)] H := hP
  have hD : va_D A [(mo, .inr (9, mOb ad th (nI kn) (nI rn) (nI (mn + 2)) (nI dp))), (ad 29, aI E 256 f6)] := hD
  refine lv_aload_n hx hb dX8_put_32 rfl (lv_at hl 1 rfl) ?_
  refine lv_dup hx hb dX8_put_33 rfl ?_
  refine xgt TX8_28 (v := .int (nI (mn + 2))) hx hb hts hiX8 hown hev.1 hP 0 rfl (by decide) hf206 rfl dX8_put_34 ?_
  refine lv_iconst (v := 1) hx hb dX8_put_37 (by decide) ?_
  refine lv_iadd hx hb dX8_put_38 ?_
  refine xtop (y := nI (mn + 3)) ((nI_add (mn + 2) 1).trans (congrArg nI (by omega))) ?_
  refine xpt TX8_28 (v := (nI (mn + 3))) hx hb hts hiX8 hown hev.1 hP hD hS 0 rfl (by decide) hf206 (Nat.le_of_ble_eq_true rfl) dX8_put_39 (fun H locs hP hD hS => ?_)
  have hP : va_P E.1 vwCl [(mo, .inr (9, mOb ad th (nI kn) (nI rn) (nI (mn + 3)) (nI dp))), (ad 29, aI E 256 f6)] H := hP
  have hD : va_D A [(mo, .inr (9, mOb ad th (nI kn) (nI rn) (nI (mn + 3)) (nI dp))), (ad 29, aI E 256 f6)] := hD
  refine lv_iinc (v := 32) (lv' := [(4, .int 32), (0, .ref mo), (1, .long v), (3, .int 8)]) hx hb dX8_put_42 hl (k := 0) rfl (by decide) (by decide) rfl (fun ls hl => ?_)
  refine lv_goto (tgt := 9) hx hb dX8_put_45 (by decide) ?_
  refine lv_iload hx hb dX8_put_9 (lv_at hl 0 rfl) ?_
  refine lv_if_lt (tgt := 48) hx hb dX8_put_11 (by decide) (fun c7 => absurd c7 (by decide)) (fun c7 => ?_)
  refine lv_aload_n hx hb dX8_put_14 rfl (lv_at hl 1 rfl) ?_
  refine xgt TX8_29 (v := .ref (ad 29)) hx hb hts hiX8 hown hev.1 hP 0 rfl (by decide) hf87 rfl dX8_put_15 ?_
  refine lv_aload_n hx hb dX8_put_18 rfl (lv_at hl 1 rfl) ?_
  refine xgt TX8_28 (v := .int (nI (mn + 3))) hx hb hts hiX8 hown hev.1 hP 0 rfl (by decide) hf206 rfl dX8_put_19 ?_
  refine lv_lload_n hx hb dX8_put_22 rfl (lv_at hl 2 rfl) ?_
  refine lv_iload hx hb dX8_put_23 (lv_at hl 0 rfl) ?_
  refine lv_lshr (v := v >>> ((32 : Int32).toInt64 &&& 63)) hx hb dX8_put_25 rfl ?_
  refine lv_ldc2 hx hb hown hk209 dX8_put_26 ?_
  refine lv_land hx hb dX8_put_29 ?_
  refine lv_l2i (v := ((v >>> ((32 : Int32).toInt64 &&& 63)) &&& 255).toInt32) hx hb dX8_put_30 rfl ?_
  refine xiast (k := mn + 3) hx hb hev.1 hP hD hS 1 1 rfl rfl (by omega) (by decide) dX8_put_31 (fun H locs hP hD hS => ?_)
  obtain ⟨f8, ef8⟩ : ∃ y9_ : Nat → Int32, y9_ = upd f6 (mn + 3) (((v >>> ((32 : Int32).toInt64 &&& 63)) &&& 255).toInt32) := ⟨_, rfl⟩
  rw [← ef8] at hP hD
  have hP : va_P E.1 vwCl [(mo, .inr (9, mOb ad th (nI kn) (nI rn) (nI (mn + 3)) (nI dp))), (ad 29, aI E 256 f8)] H := hP
  have hD : va_D A [(mo, .inr (9, mOb ad th (nI kn) (nI rn) (nI (mn + 3)) (nI dp))), (ad 29, aI E 256 f8)] := hD
  refine lv_aload_n hx hb dX8_put_32 rfl (lv_at hl 1 rfl) ?_
  refine lv_dup hx hb dX8_put_33 rfl ?_
  refine xgt TX8_28 (v := .int (nI (mn + 3))) hx hb hts hiX8 hown hev.1 hP 0 rfl (by decide) hf206 rfl dX8_put_34 ?_
  refine lv_iconst (v := 1) hx hb dX8_put_37 (by decide) ?_
  refine lv_iadd hx hb dX8_put_38 ?_
  refine xtop (y := nI (mn + 4)) ((nI_add (mn + 3) 1).trans (congrArg nI (by omega))) ?_
  refine xpt TX8_28 (v := (nI (mn + 4))) hx hb hts hiX8 hown hev.1 hP hD hS 0 rfl (by decide) hf206 (Nat.le_of_ble_eq_true rfl) dX8_put_39 (fun H locs hP hD hS => ?_)
  have hP : va_P E.1 vwCl [(mo, .inr (9, mOb ad th (nI kn) (nI rn) (nI (mn + 4)) (nI dp))), (ad 29, aI E 256 f8)] H := hP
  have hD : va_D A [(mo, .inr (9, mOb ad th (nI kn) (nI rn) (nI (mn + 4)) (nI dp))), (ad 29, aI E 256 f8)] := hD
  refine lv_iinc (v := 24) (lv' := [(4, .int 24), (0, .ref mo), (1, .long v), (3, .int 8)]) hx hb dX8_put_42 hl (k := 0) rfl (by decide) (by decide) rfl (fun ls hl => ?_)
  refine lv_goto (tgt := 9) hx hb dX8_put_45 (by decide) ?_
  refine lv_iload hx hb dX8_put_9 (lv_at hl 0 rfl) ?_
  refine lv_if_lt (tgt := 48) hx hb dX8_put_11 (by decide) (fun c9 => absurd c9 (by decide)) (fun c9 => ?_)
  refine lv_aload_n hx hb dX8_put_14 rfl (lv_at hl 1 rfl) ?_
  refine xgt TX8_29 (v := .ref (ad 29)) hx hb hts hiX8 hown hev.1 hP 0 rfl (by decide) hf87 rfl dX8_put_15 ?_
  refine lv_aload_n hx hb dX8_put_18 rfl (lv_at hl 1 rfl) ?_
  refine xgt TX8_28 (v := .int (nI (mn + 4))) hx hb hts hiX8 hown hev.1 hP 0 rfl (by decide) hf206 rfl dX8_put_19 ?_
  refine lv_lload_n hx hb dX8_put_22 rfl (lv_at hl 2 rfl) ?_
  refine lv_iload hx hb dX8_put_23 (lv_at hl 0 rfl) ?_
  refine lv_lshr (v := v >>> ((24 : Int32).toInt64 &&& 63)) hx hb dX8_put_25 rfl ?_
  refine lv_ldc2 hx hb hown hk209 dX8_put_26 ?_
  refine lv_land hx hb dX8_put_29 ?_
  refine lv_l2i (v := ((v >>> ((24 : Int32).toInt64 &&& 63)) &&& 255).toInt32) hx hb dX8_put_30 rfl ?_
  refine xiast (k := mn + 4) hx hb hev.1 hP hD hS 1 1 rfl rfl (by omega) (by decide) dX8_put_31 (fun H locs hP hD hS => ?_)
  obtain ⟨f10, ef10⟩ : ∃ y9_ : Nat → Int32, y9_ = upd f8 (mn + 4) (((v >>> ((24 : Int32).toInt64 &&& 63)) &&& 255).toInt32) := ⟨_, rfl⟩
  rw [← ef10] at hP hD
  have hP : va_P E.1 vwCl [(mo, .inr (9, mOb ad th (nI kn) (nI rn) (nI (mn + 4)) (nI dp))), (ad 29, aI E 256 f10)] H := hP
  have hD : va_D A [(mo, .inr (9, mOb ad th (nI kn) (nI rn) (nI (mn + 4)) (nI dp))), (ad 29, aI E 256 f10)] := hD
  refine lv_aload_n hx hb dX8_put_32 rfl (lv_at hl 1 rfl) ?_
  refine lv_dup hx hb dX8_put_33 rfl ?_
  refine xgt TX8_28 (v := .int (nI (mn + 4))) hx hb hts hiX8 hown hev.1 hP 0 rfl (by decide) hf206 rfl dX8_put_34 ?_
  refine lv_iconst (v := 1) hx hb dX8_put_37 (by decide) ?_
  refine lv_iadd hx hb dX8_put_38 ?_
  refine xtop (y := nI (mn + 5)) ((nI_add (mn + 4) 1).trans (congrArg nI (by omega))) ?_
  refine xpt TX8_28 (v := (nI (mn + 5))) hx hb hts hiX8 hown hev.1 hP hD hS 0 rfl (by decide) hf206 (Nat.le_of_ble_eq_true rfl) dX8_put_39 (fun H locs hP hD hS => ?_)
  have hP : va_P E.1 vwCl [(mo, .inr (9, mOb ad th (nI kn) (nI rn) (nI (mn + 5)) (nI dp))), (ad 29, aI E 256 f10)] H := hP
  have hD : va_D A [(mo, .inr (9, mOb ad th (nI kn) (nI rn) (nI (mn + 5)) (nI dp))), (ad 29, aI E 256 f10)] := hD
  refine lv_iinc (v := 16) (lv' := [(4, .int 16), (0, .ref mo), (1, .long v), (3, .int 8)]) hx hb dX8_put_42 hl (k := 0) rfl (by decide) (by decide) rfl (fun ls hl => ?_)
  refine lv_goto (tgt := 9) hx hb dX8_put_45 (by decide) ?_
  refine lv_iload hx hb dX8_put_9 (lv_at hl 0 rfl) ?_
  refine lv_if_lt (tgt := 48) hx hb dX8_put_11 (by decide) (fun c11 => absurd c11 (by decide)) (fun c11 => ?_)
  refine lv_aload_n hx hb dX8_put_14 rfl (lv_at hl 1 rfl) ?_
  refine xgt TX8_29 (v := .ref (ad 29)) hx hb hts hiX8 hown hev.1 hP 0 rfl (by decide) hf87 rfl dX8_put_15 ?_
  refine lv_aload_n hx hb dX8_put_18 rfl (lv_at hl 1 rfl) ?_
  refine xgt TX8_28 (v := .int (nI (mn + 5))) hx hb hts hiX8 hown hev.1 hP 0 rfl (by decide) hf206 rfl dX8_put_19 ?_
  refine lv_lload_n hx hb dX8_put_22 rfl (lv_at hl 2 rfl) ?_
  refine lv_iload hx hb dX8_put_23 (lv_at hl 0 rfl) ?_
  refine lv_lshr (v := v >>> ((16 : Int32).toInt64 &&& 63)) hx hb dX8_put_25 rfl ?_
  refine lv_ldc2 hx hb hown hk209 dX8_put_26 ?_
  refine lv_land hx hb dX8_put_29 ?_
  refine lv_l2i (v := ((v >>> ((16 : Int32).toInt64 &&& 63)) &&& 255).toInt32) hx hb dX8_put_30 rfl ?_
  refine xiast (k := mn + 5) hx hb hev.1 hP hD hS 1 1 rfl rfl (by omega) (by decide) dX8_put_31 (fun H locs hP hD hS => ?_)
  obtain ⟨f12, ef12⟩ : ∃ y9_ : Nat → Int32, y9_ = upd f10 (mn + 5) (((v >>> ((16 : Int32).toInt64 &&& 63)) &&& 255).toInt32) := ⟨_, rfl⟩
  rw [← ef12] at hP hD
  have hP : va_P E.1 vwCl [(mo, .inr (9, mOb ad th (nI kn) (nI rn) (nI (mn + 5)) (nI dp))), (ad 29, aI E 256 f12)] H := hP
  have hD : va_D A [(mo, .inr (9, mOb ad th (nI kn) (nI rn) (nI (mn + 5)) (nI dp))), (ad 29, aI E 256 f12)] := hD
  refine lv_aload_n hx hb dX8_put_32 rfl (lv_at hl 1 rfl) ?_
  refine lv_dup hx hb dX8_put_33 rfl ?_
  refine xgt TX8_28 (v := .int (nI (mn + 5))) hx hb hts hiX8 hown hev.1 hP 0 rfl (by decide) hf206 rfl dX8_put_34 ?_
  refine lv_iconst (v := 1) hx hb dX8_put_37 (by decide) ?_
  refine lv_iadd hx hb dX8_put_38 ?_
  refine xtop (y := nI (mn + 6)) ((nI_add (mn + 5) 1).trans (congrArg nI (by omega))) ?_
  refine xpt TX8_28 (v := (nI (mn + 6))) hx hb hts hiX8 hown hev.1 hP hD hS 0 rfl (by decide) hf206 (Nat.le_of_ble_eq_true rfl) dX8_put_39 (fun H locs hP hD hS => ?_)
  have hP : va_P E.1 vwCl [(mo, .inr (9, mOb ad th (nI kn) (nI rn) (nI (mn + 6)) (nI dp))), (ad 29, aI E 256 f12)] H := hP
  have hD : va_D A [(mo, .inr (9, mOb ad th (nI kn) (nI rn) (nI (mn + 6)) (nI dp))), (ad 29, aI E 256 f12)] := hD
  refine lv_iinc (v := 8) (lv' := [(4, .int 8), (0, .ref mo), (1, .long v), (3, .int 8)]) hx hb dX8_put_42 hl (k := 0) rfl (by decide) (by decide) rfl (fun ls hl => ?_)
  refine lv_goto (tgt := 9) hx hb dX8_put_45 (by decide) ?_
  refine lv_iload hx hb dX8_put_9 (lv_at hl 0 rfl) ?_
  refine lv_if_lt (tgt := 48) hx hb dX8_put_11 (by decide) (fun c13 => absurd c13 (by decide)) (fun c13 => ?_)
  refine lv_aload_n hx hb dX8_put_14 rfl (lv_at hl 1 rfl) ?_
  refine xgt TX8_29 (v := .ref (ad 29)) hx hb hts hiX8 hown hev.1 hP 0 rfl (by decide) hf87 rfl dX8_put_15 ?_
  refine lv_aload_n hx hb dX8_put_18 rfl (lv_at hl 1 rfl) ?_
  refine xgt TX8_28 (v := .int (nI (mn + 6))) hx hb hts hiX8 hown hev.1 hP 0 rfl (by decide) hf206 rfl dX8_put_19 ?_
  refine lv_lload_n hx hb dX8_put_22 rfl (lv_at hl 2 rfl) ?_
  refine lv_iload hx hb dX8_put_23 (lv_at hl 0 rfl) ?_
  refine lv_lshr (v := v >>> ((8 : Int32).toInt64 &&& 63)) hx hb dX8_put_25 rfl ?_
  refine lv_ldc2 hx hb hown hk209 dX8_put_26 ?_
  refine lv_land hx hb dX8_put_29 ?_
  refine lv_l2i (v := ((v >>> ((8 : Int32).toInt64 &&& 63)) &&& 255).toInt32) hx hb dX8_put_30 rfl ?_
  refine xiast (k := mn + 6) hx hb hev.1 hP hD hS 1 1 rfl rfl (by omega) (by decide) dX8_put_31 (fun H locs hP hD hS => ?_)
  obtain ⟨f14, ef14⟩ : ∃ y9_ : Nat → Int32, y9_ = upd f12 (mn + 6) (((v >>> ((8 : Int32).toInt64 &&& 63)) &&& 255).toInt32) := ⟨_, rfl⟩
  rw [← ef14] at hP hD
  have hP : va_P E.1 vwCl [(mo, .inr (9, mOb ad th (nI kn) (nI rn) (nI (mn + 6)) (nI dp))), (ad 29, aI E 256 f14)] H := hP
  have hD : va_D A [(mo, .inr (9, mOb ad th (nI kn) (nI rn) (nI (mn + 6)) (nI dp))), (ad 29, aI E 256 f14)] := hD
  refine lv_aload_n hx hb dX8_put_32 rfl (lv_at hl 1 rfl) ?_
  refine lv_dup hx hb dX8_put_33 rfl ?_
  refine xgt TX8_28 (v := .int (nI (mn + 6))) hx hb hts hiX8 hown hev.1 hP 0 rfl (by decide) hf206 rfl dX8_put_34 ?_
  refine lv_iconst (v := 1) hx hb dX8_put_37 (by decide) ?_
  refine lv_iadd hx hb dX8_put_38 ?_
  refine xtop (y := nI (mn + 7)) ((nI_add (mn + 6) 1).trans (congrArg nI (by omega))) ?_
  refine xpt TX8_28 (v := (nI (mn + 7))) hx hb hts hiX8 hown hev.1 hP hD hS 0 rfl (by decide) hf206 (Nat.le_of_ble_eq_true rfl) dX8_put_39 (fun H locs hP hD hS => ?_)
  have hP : va_P E.1 vwCl [(mo, .inr (9, mOb ad th (nI kn) (nI rn) (nI (mn + 7)) (nI dp))), (ad 29, aI E 256 f14)] H := hP
  have hD : va_D A [(mo, .inr (9, mOb ad th (nI kn) (nI rn) (nI (mn + 7)) (nI dp))), (ad 29, aI E 256 f14)] := hD
  refine lv_iinc (v := 0) (lv' := [(4, .int 0), (0, .ref mo), (1, .long v), (3, .int 8)]) hx hb dX8_put_42 hl (k := 0) rfl (by decide) (by decide) rfl (fun ls hl => ?_)
  refine lv_goto (tgt := 9) hx hb dX8_put_45 (by decide) ?_
  refine lv_iload hx hb dX8_put_9 (lv_at hl 0 rfl) ?_
  refine lv_if_lt (tgt := 48) hx hb dX8_put_11 (by decide) (fun c15 => absurd c15 (by decide)) (fun c15 => ?_)
  refine lv_aload_n hx hb dX8_put_14 rfl (lv_at hl 1 rfl) ?_
  refine xgt TX8_29 (v := .ref (ad 29)) hx hb hts hiX8 hown hev.1 hP 0 rfl (by decide) hf87 rfl dX8_put_15 ?_
  refine lv_aload_n hx hb dX8_put_18 rfl (lv_at hl 1 rfl) ?_
  refine xgt TX8_28 (v := .int (nI (mn + 7))) hx hb hts hiX8 hown hev.1 hP 0 rfl (by decide) hf206 rfl dX8_put_19 ?_
  refine lv_lload_n hx hb dX8_put_22 rfl (lv_at hl 2 rfl) ?_
  refine lv_iload hx hb dX8_put_23 (lv_at hl 0 rfl) ?_
  refine lv_lshr (v := v >>> ((0 : Int32).toInt64 &&& 63)) hx hb dX8_put_25 rfl ?_
  refine lv_ldc2 hx hb hown hk209 dX8_put_26 ?_
  refine lv_land hx hb dX8_put_29 ?_
  refine lv_l2i (v := ((v >>> ((0 : Int32).toInt64 &&& 63)) &&& 255).toInt32) hx hb dX8_put_30 rfl ?_
  refine xiast (k := mn + 7) hx hb hev.1 hP hD hS 1 1 rfl rfl (by omega) (by decide) dX8_put_31 (fun H locs hP hD hS => ?_)
  obtain ⟨f16, ef16⟩ : ∃ y9_ : Nat → Int32, y9_ = upd f14 (mn + 7) (((v >>> ((0 : Int32).toInt64 &&& 63)) &&& 255).toInt32) := ⟨_, rfl⟩
  rw [← ef16] at hP hD
  have hP : va_P E.1 vwCl [(mo, .inr (9, mOb ad th (nI kn) (nI rn) (nI (mn + 7)) (nI dp))), (ad 29, aI E 256 f16)] H := hP
  have hD : va_D A [(mo, .inr (9, mOb ad th (nI kn) (nI rn) (nI (mn + 7)) (nI dp))), (ad 29, aI E 256 f16)] := hD
  refine lv_aload_n hx hb dX8_put_32 rfl (lv_at hl 1 rfl) ?_
  refine lv_dup hx hb dX8_put_33 rfl ?_
  refine xgt TX8_28 (v := .int (nI (mn + 7))) hx hb hts hiX8 hown hev.1 hP 0 rfl (by decide) hf206 rfl dX8_put_34 ?_
  refine lv_iconst (v := 1) hx hb dX8_put_37 (by decide) ?_
  refine lv_iadd hx hb dX8_put_38 ?_
  refine xtop (y := nI (mn + 8)) ((nI_add (mn + 7) 1).trans (congrArg nI (by omega))) ?_
  refine xpt TX8_28 (v := (nI (mn + 8))) hx hb hts hiX8 hown hev.1 hP hD hS 0 rfl (by decide) hf206 (Nat.le_of_ble_eq_true rfl) dX8_put_39 (fun H locs hP hD hS => ?_)
  have hP : va_P E.1 vwCl [(mo, .inr (9, mOb ad th (nI kn) (nI rn) (nI (mn + 8)) (nI dp))), (ad 29, aI E 256 f16)] H := hP
  have hD : va_D A [(mo, .inr (9, mOb ad th (nI kn) (nI rn) (nI (mn + 8)) (nI dp))), (ad 29, aI E 256 f16)] := hD
  refine lv_iinc (v := (-8)) (lv' := [(4, .int (-8)), (0, .ref mo), (1, .long v), (3, .int 8)]) hx hb dX8_put_42 hl (k := 0) rfl (by decide) (by decide) rfl (fun ls hl => ?_)
  refine lv_goto (tgt := 9) hx hb dX8_put_45 (by decide) ?_
  refine lv_iload hx hb dX8_put_9 (lv_at hl 0 rfl) ?_
  refine lv_if_lt (tgt := 48) hx hb dX8_put_11 (by decide) (fun c17 => ?_) (fun c17 => absurd (by decide) c17)
  refine xrv hx hb hr hlocks hP hD hS ⟨f16, rfl, ?_⟩ dX8_put_48
  have b0 : f2 = ap a29 mn [ub v 56] := ef2
  have b1 : f4 = ap a29 mn ([ub v 56] ++ [ub v 48]) := ap_step b0 (show f4 = ap f2 (mn + 1) [ub v 48] from ef4) rfl
  have b2 : f6 = ap a29 mn (([ub v 56] ++ [ub v 48]) ++ [ub v 40]) := ap_step b1 (show f6 = ap f4 (mn + 2) [ub v 40] from ef6) rfl
  have b3 : f8 = ap a29 mn ((([ub v 56] ++ [ub v 48]) ++ [ub v 40]) ++ [ub v 32]) := ap_step b2 (show f8 = ap f6 (mn + 3) [ub v 32] from ef8) rfl
  have b4 : f10 = ap a29 mn (((([ub v 56] ++ [ub v 48]) ++ [ub v 40]) ++ [ub v 32]) ++ [ub v 24]) := ap_step b3 (show f10 = ap f8 (mn + 4) [ub v 24] from ef10) rfl
  have b5 : f12 = ap a29 mn ((((([ub v 56] ++ [ub v 48]) ++ [ub v 40]) ++ [ub v 32]) ++ [ub v 24]) ++ [ub v 16]) := ap_step b4 (show f12 = ap f10 (mn + 5) [ub v 16] from ef12) rfl
  have b6 : f14 = ap a29 mn (((((([ub v 56] ++ [ub v 48]) ++ [ub v 40]) ++ [ub v 32]) ++ [ub v 24]) ++ [ub v 16]) ++ [ub v 8]) := ap_step b5 (show f14 = ap f12 (mn + 6) [ub v 8] from ef14) rfl
  have b7 : f16 = ap a29 mn ((((((([ub v 56] ++ [ub v 48]) ++ [ub v 40]) ++ [ub v 32]) ++ [ub v 24]) ++ [ub v 16]) ++ [ub v 8]) ++ [ub v 0]) := ap_step b6 (show f16 = ap f14 (mn + 7) [ub v 0] from ef16) rfl
  exact b7

