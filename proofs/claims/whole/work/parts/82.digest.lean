/-! digest where it does not throw -/
abbrev pX7_digest (E : xE) (k : Nat) (fd : Nat → Int32) (r : Int32) (w : va_W) : Prop := w = [] ∧ r = by8 (jus (fd (k / 4)) (nI (24 - 8 * (k % 4))))
set_option maxHeartbeats 4000000 in
set_option maxRecDepth 100000 in
theorem kX7_digest (l : Launch) (E : xE) (x rg dr rs : Nat) (nr : Int32) (c0 h td : Nat) (fd : Nat → Int32) (k : Nat) (hk : k < 32) : KT l yX7_digest wsX7_digest 0 0 0 0 E [] [(x, .inr (8, [.ref rg, .ref dr, .ref rs, .int nr, .ref c0, .ref h, .ref td])), (td, aI E 8 fd)] [.ref x, .int (nI k)] (QI E (pX7_digest E k fd)) := by
  refine KT.start (cc := cX7_digest) (maxL := 2) (ret := (some .byte)) (by decide) rfl (Nat.le_of_ble_eq_true rfl) ?_
  intro p e s m below meth c A H hx hb hr hlocks hml hts hown hin hP hR0 hD hap hev hz hA hS ls hl
  have hl : lv_has ls 2 [(0, .ref x), (1, .int (nI k))] := hl
  have hiX7 : ∀ w ∈ wsX70, w ∈ wsX7_digest := fun _ h => List.mem_cons_of_mem _ (List.mem_append_right _ h)
  have hf47 := hts (.fieldLink RX7 47 "SignQuorum" "toldDigest" "[I") (by decide +kernel)
  refine lv_iload_n hx hb dX7_digest_0 rfl (lv_at hl 1 rfl) ?_
  refine lv_if_lt (tgt := 10) hx hb dX7_digest_1 (by decide) (fun c1 => absurd c1 (nI_pos (by omega))) (fun c1 => ?_)
  refine lv_iload_n hx hb dX7_digest_4 rfl (lv_at hl 1 rfl) ?_
  refine lv_bipush (v := 32) hx hb dX7_digest_5 (by decide) ?_
  refine lv_icmp_lt (tgt := 20) hx hb dX7_digest_7 (by decide) (fun c3 => ?_) (fun c3 => absurd (nI_lt (b := 32) hk (by omega)) c3)
  refine lv_aload_n hx hb dX7_digest_20 rfl (lv_at hl 0 rfl) ?_
  refine va_get (D := E.1) (ci := 8) (v := .ref td) (C := RX7) (T := TX7) (N := 7) hx hb hts hiX7 hown hev.1 (xro hR0 hap hS) 0 rfl rfl 6 (by decide) hf47 (fun _ h9 => h9) rfl dX7_digest_21 ?_
  refine lv_iload_n hx hb dX7_digest_24 rfl (lv_at hl 1 rfl) ?_
  refine lv_iconst (v := 2) hx hb dX7_digest_25 (by decide) ?_
  refine lv_ishr hx hb dX7_digest_26 ?_
  refine xtop (y := nI (k / 4)) (pk_shrN (n := k) (by omega) ((2 : Int32) &&& 31) 2 (by decide)) ?_
  refine xiald (k := k / 4) hx hb hev.1 (xro hR0 hap hS) 1 1 rfl rfl (by omega) (by decide) dX7_digest_27 ?_
  refine lv_bipush (v := 24) hx hb dX7_digest_28 (by decide) ?_
  refine lv_bipush (v := 8) hx hb dX7_digest_30 (by decide) ?_
  refine lv_iload_n hx hb dX7_digest_32 rfl (lv_at hl 1 rfl) ?_
  refine lv_iconst (v := 3) hx hb dX7_digest_33 (by decide) ?_
  refine lv_iand hx hb dX7_digest_34 ?_
  refine xtop (y := nI (k % 4)) (pk_andN (n := k) (by omega) (m := 3) 2 (by decide)) ?_
  refine lv_imul hx hb dX7_digest_35 ?_
  refine xtop (y := nI (8 * (k % 4))) (pk_mul 8 (k % 4)) ?_
  refine lv_isub hx hb dX7_digest_36 ?_
  refine xtop (y := nI (24 - 8 * (k % 4))) (pk_sub (a := 24) (by omega)) ?_
  refine lv_iushr (v := jus (fd (k / 4)) (nI (24 - 8 * (k % 4)))) hx hb dX7_digest_37 rfl ?_
  refine lv_i2b (v := (jus (fd (k / 4)) (nI (24 - 8 * (k % 4)))).toInt8.toInt32) hx hb dX7_digest_38 rfl ?_
  refine xrz hx hb hr hlocks (by first | rfl | exact pk_nb _) hP hD hS ⟨rfl, rfl⟩ dX7_digest_39
