abbrev pX4_tellsOfPaths (E : xE) (w0 : Nat) (nu : Int32) (role : Int32) (ver : Int32) (unt : Int64) (oa : Nat) (oc : Nat) (qo : Nat) (tq : Nat) (dq : Nat) (ha : Nat) (pn : Nat) (sg : Int32) (rk : Int32) (r : Int32) (w : va_W) : Prop := w = [] ∧ r = b1 (¬ role < 3) ∧ (True)
set_option maxHeartbeats 4000000 in
set_option maxRecDepth 100000 in
theorem kX4_tellsOfPaths (l : Launch) (E : xE) (w0 : Nat) (nu : Int32) (role : Int32) (ver : Int32) (unt : Int64) (oa : Nat) (oc : Nat) (qo : Nat) (tq : Nat) (dq : Nat) (ha : Nat) (pn : Nat) (sg : Int32) (rk : Int32)  : KT l yX4_tellsOfPaths wsX4_tellsOfPaths 0 0 0 0 E [] [(w0, .inr (5, [.int nu, .int role, .int ver, .long unt, .ref oa, .int (nI oc), .ref qo, .ref tq, .ref dq, .ref ha, .int (nI pn), .int sg, .int rk]))] [.ref w0] (QI E (pX4_tellsOfPaths E w0 nu role ver unt oa oc qo tq dq ha pn sg rk)) := by
  refine KT.start (cc := cX4_tellsOfPaths) (maxL := 1) (ret := (some .boolean)) (by decide) rfl (Nat.le_of_ble_eq_true rfl) ?_
  intro p e s m below meth c A H hx hb hr hlocks hml hts hown hin hP hR0 hD hap hev hz hA hS ls hl
  have hl : lv_has ls 1 [(0, .ref w0)] := hl
  have hiX4 : ∀ w ∈ wsX40, w ∈ wsX4_tellsOfPaths := by decide +kernel
  have hf56 := hts (.fieldLink RX4 56 "SignQuorum$Row" "role" "I") (by decide +kernel)
  refine lv_aload_n hx hb dX4_tellsOfPaths_0 rfl (lv_at hl 0 rfl) ?_
  refine va_get (D := E.1) (ci := 5) (v := .int role) (C := RX4) (T := TX4) (N := 13) hx hb hts hiX4 hown hev.1 (xro hR0 hap hS) 0 rfl rfl 1 (by decide) hf56 (fun _ h9 => h9) rfl dX4_tellsOfPaths_1 ?_
  refine lv_iconst (v := 3) hx hb dX4_tellsOfPaths_4 (by decide) ?_
  refine lv_icmp_lt (tgt := 12) hx hb dX4_tellsOfPaths_5 (by decide) (fun c1 => ?_) (fun c1 => ?_)
  · skip
    refine lv_iconst (v := 0) hx hb dX4_tellsOfPaths_12 (by decide) ?_
    refine xrz hx hb hr hlocks (by first | rfl | decide) hP hD hS ⟨rfl, ?_, ?_⟩ dX4_tellsOfPaths_13
    · exact (b1_f (fun h9 => h9 c1)).symm
    · trivial
  · skip
    refine lv_iconst (v := 1) hx hb dX4_tellsOfPaths_8 (by decide) ?_
    refine lv_goto (tgt := 13) hx hb dX4_tellsOfPaths_9 (by decide) ?_
    refine xrz hx hb hr hlocks (by first | rfl | decide) hP hD hS ⟨rfl, ?_, ?_⟩ dX4_tellsOfPaths_13
    · exact (b1_t c1).symm
    · trivial

abbrev pX4_isClosed (E : xE) (w0 : Nat) (nu : Int32) (role : Int32) (ver : Int32) (unt : Int64) (oa : Nat) (oc : Nat) (qo : Nat) (tq : Nat) (dq : Nat) (ha : Nat) (pn : Nat) (sn : Nat) (rk : Int32) (r : Int32) (w : va_W) : Prop := w = [] ∧ r = b1 (0 < sn) ∧ (True)
set_option maxHeartbeats 4000000 in
set_option maxRecDepth 100000 in
theorem kX4_isClosed (l : Launch) (E : xE) (w0 : Nat) (nu : Int32) (role : Int32) (ver : Int32) (unt : Int64) (oa : Nat) (oc : Nat) (qo : Nat) (tq : Nat) (dq : Nat) (ha : Nat) (pn : Nat) (sn : Nat) (rk : Int32) (hsn : sn ≤ 12) : KT l yX4_isClosed wsX4_isClosed 0 0 0 0 E [] [(w0, .inr (5, [.int nu, .int role, .int ver, .long unt, .ref oa, .int (nI oc), .ref qo, .ref tq, .ref dq, .ref ha, .int (nI pn), .int (nI sn), .int rk]))] [.ref w0] (QI E (pX4_isClosed E w0 nu role ver unt oa oc qo tq dq ha pn sn rk)) := by
  refine KT.start (cc := cX4_isClosed) (maxL := 1) (ret := (some .boolean)) (by decide) rfl (Nat.le_of_ble_eq_true rfl) ?_
  intro p e s m below meth c A H hx hb hr hlocks hml hts hown hin hP hR0 hD hap hev hz hA hS ls hl
  have hl : lv_has ls 1 [(0, .ref w0)] := hl
  have hiX4 : ∀ w ∈ wsX40, w ∈ wsX4_isClosed := by decide +kernel
  have hf47 := hts (.fieldLink RX4 47 "SignQuorum$Row" "signatureCount" "I") (by decide +kernel)
  refine lv_aload_n hx hb dX4_isClosed_0 rfl (lv_at hl 0 rfl) ?_
  refine va_get (D := E.1) (ci := 5) (v := .int (nI sn)) (C := RX4) (T := TX4) (N := 13) hx hb hts hiX4 hown hev.1 (xro hR0 hap hS) 0 rfl rfl 11 (by decide) hf47 (fun _ h9 => h9) rfl dX4_isClosed_1 ?_
  refine lv_if_le (tgt := 11) hx hb dX4_isClosed_4 (by decide) (fun c1 => ?_) (fun c1 => ?_)
  · skip
    have kc1 : sn ≤ 0 := (nI_leI (a := sn) (b := 0) (by omega) (by omega)).mp c1
    refine lv_iconst (v := 0) hx hb dX4_isClosed_11 (by decide) ?_
    refine xrz hx hb hr hlocks (by first | rfl | decide) hP hD hS ⟨rfl, ?_, ?_⟩ dX4_isClosed_12
    · exact (b1_f (by omega)).symm
    · trivial
  · skip
    have kc1 : ¬ sn ≤ 0 := fun h9 => c1 ((nI_leI (a := sn) (b := 0) (by omega) (by omega)).mpr h9)
    refine lv_iconst (v := 1) hx hb dX4_isClosed_7 (by decide) ?_
    refine lv_goto (tgt := 12) hx hb dX4_isClosed_8 (by decide) ?_
    refine xrz hx hb hr hlocks (by first | rfl | decide) hP hD hS ⟨rfl, ?_, ?_⟩ dX4_isClosed_12
    · exact (b1_t (by omega)).symm
    · trivial

abbrev pX4_isFullySigned (E : xE) (w0 : Nat) (nu : Int32) (role : Int32) (ver : Int32) (unt : Int64) (oa : Nat) (oc : Nat) (qo : Nat) (tq : Nat) (dq : Nat) (ha : Nat) (pn : Nat) (sn : Nat) (rk : Int32) (r : Int32) (w : va_W) : Prop := w = [] ∧ r = b1 (12 ≤ sn) ∧ (True)
set_option maxHeartbeats 4000000 in
set_option maxRecDepth 100000 in
theorem kX4_isFullySigned (l : Launch) (E : xE) (w0 : Nat) (nu : Int32) (role : Int32) (ver : Int32) (unt : Int64) (oa : Nat) (oc : Nat) (qo : Nat) (tq : Nat) (dq : Nat) (ha : Nat) (pn : Nat) (sn : Nat) (rk : Int32) (hsn : sn ≤ 12) : KT l yX4_isFullySigned wsX4_isFullySigned 0 0 0 0 E [] [(w0, .inr (5, [.int nu, .int role, .int ver, .long unt, .ref oa, .int (nI oc), .ref qo, .ref tq, .ref dq, .ref ha, .int (nI pn), .int (nI sn), .int rk]))] [.ref w0] (QI E (pX4_isFullySigned E w0 nu role ver unt oa oc qo tq dq ha pn sn rk)) := by
  refine KT.start (cc := cX4_isFullySigned) (maxL := 1) (ret := (some .boolean)) (by decide) rfl (Nat.le_of_ble_eq_true rfl) ?_
  intro p e s m below meth c A H hx hb hr hlocks hml hts hown hin hP hR0 hD hap hev hz hA hS ls hl
  have hl : lv_has ls 1 [(0, .ref w0)] := hl
  have hiX4 : ∀ w ∈ wsX40, w ∈ wsX4_isFullySigned := by decide +kernel
  have hf47 := hts (.fieldLink RX4 47 "SignQuorum$Row" "signatureCount" "I") (by decide +kernel)
  refine lv_aload_n hx hb dX4_isFullySigned_0 rfl (lv_at hl 0 rfl) ?_
  refine va_get (D := E.1) (ci := 5) (v := .int (nI sn)) (C := RX4) (T := TX4) (N := 13) hx hb hts hiX4 hown hev.1 (xro hR0 hap hS) 0 rfl rfl 11 (by decide) hf47 (fun _ h9 => h9) rfl dX4_isFullySigned_1 ?_
  refine lv_bipush (v := 12) hx hb dX4_isFullySigned_4 (by decide) ?_
  refine lv_icmp_lt (tgt := 13) hx hb dX4_isFullySigned_6 (by decide) (fun c1 => ?_) (fun c1 => ?_)
  · skip
    have kc1 : sn < 12 := (nI_ltI (a := sn) (b := 12) (by omega) (by omega)).mp c1
    refine lv_iconst (v := 0) hx hb dX4_isFullySigned_13 (by decide) ?_
    refine xrz hx hb hr hlocks (by first | rfl | decide) hP hD hS ⟨rfl, ?_, ?_⟩ dX4_isFullySigned_14
    · exact (b1_f (by omega)).symm
    · trivial
  · skip
    have kc1 : ¬ sn < 12 := fun h9 => c1 ((nI_ltI (a := sn) (b := 12) (by omega) (by omega)).mpr h9)
    refine lv_iconst (v := 1) hx hb dX4_isFullySigned_9 (by decide) ?_
    refine lv_goto (tgt := 14) hx hb dX4_isFullySigned_10 (by decide) ?_
    refine xrz hx hb hr hlocks (by first | rfl | decide) hP hD hS ⟨rfl, ?_, ?_⟩ dX4_isFullySigned_14
    · exact (b1_t (by omega)).symm
    · trivial

abbrev pX4_isAliveAt (E : xE) (w0 : Nat) (nu : Int32) (role : Int32) (ver : Int32) (unt : Int64) (oa : Nat) (oc : Nat) (qo : Nat) (tq : Nat) (dq : Nat) (ha : Nat) (pn : Nat) (sg : Int32) (rk : Int32) (t : Int64) (r : Int32) (w : va_W) : Prop := w = [] ∧ r = b1 (¬ unt ≤ t) ∧ (True)
set_option maxHeartbeats 4000000 in
set_option maxRecDepth 100000 in
theorem kX4_isAliveAt (l : Launch) (E : xE) (w0 : Nat) (nu : Int32) (role : Int32) (ver : Int32) (unt : Int64) (oa : Nat) (oc : Nat) (qo : Nat) (tq : Nat) (dq : Nat) (ha : Nat) (pn : Nat) (sg : Int32) (rk : Int32) (t : Int64)  : KT l yX4_isAliveAt wsX4_isAliveAt 0 0 0 0 E [] [(w0, .inr (5, [.int nu, .int role, .int ver, .long unt, .ref oa, .int (nI oc), .ref qo, .ref tq, .ref dq, .ref ha, .int (nI pn), .int sg, .int rk]))] [.ref w0, .long t] (QI E (pX4_isAliveAt E w0 nu role ver unt oa oc qo tq dq ha pn sg rk t)) := by
  refine KT.start (cc := cX4_isAliveAt) (maxL := 3) (ret := (some .boolean)) (by decide) rfl (Nat.le_of_ble_eq_true rfl) ?_
  intro p e s m below meth c A H hx hb hr hlocks hml hts hown hin hP hR0 hD hap hev hz hA hS ls hl
  have hl : lv_has ls 3 [(0, .ref w0), (1, .long t)] := hl
  have hiX4 : ∀ w ∈ wsX40, w ∈ wsX4_isAliveAt := by decide +kernel
  have hf62 := hts (.fieldLink RX4 62 "SignQuorum$Row" "until" "J") (by decide +kernel)
  refine lv_aload_n hx hb dX4_isAliveAt_0 rfl (lv_at hl 0 rfl) ?_
  refine va_get (D := E.1) (ci := 5) (v := .long unt) (C := RX4) (T := TX4) (N := 13) hx hb hts hiX4 hown hev.1 (xro hR0 hap hS) 0 rfl rfl 3 (by decide) hf62 (fun _ h9 => h9) rfl dX4_isAliveAt_1 ?_
  refine lv_lload_n hx hb dX4_isAliveAt_4 rfl (lv_at hl 1 rfl) ?_
  refine W.lcmp hx hb dX4_isAliveAt_5 ?_
  refine lv_if_le (tgt := 13) hx hb dX4_isAliveAt_6 (by decide) (fun c1 => ?_) (fun c1 => ?_)
  · skip
    have kc1 : unt ≤ t := (lg_cmp_le unt t).mp c1
    refine lv_iconst (v := 0) hx hb dX4_isAliveAt_13 (by decide) ?_
    refine xrz hx hb hr hlocks (by first | rfl | decide) hP hD hS ⟨rfl, ?_, ?_⟩ dX4_isAliveAt_14
    · exact (b1_f (fun h9 => h9 kc1)).symm
    · trivial
  · skip
    have kc1 : ¬ unt ≤ t := fun h9 => c1 ((lg_cmp_le unt t).mpr h9)
    refine lv_iconst (v := 1) hx hb dX4_isAliveAt_9 (by decide) ?_
    refine lv_goto (tgt := 14) hx hb dX4_isAliveAt_10 (by decide) ?_
    refine xrz hx hb hr hlocks (by first | rfl | decide) hP hD hS ⟨rfl, ?_, ?_⟩ dX4_isAliveAt_14
    · exact (b1_t kc1).symm
    · trivial

abbrev pX4_mayTellOf (E : xE) (w0 : Nat) (nu : Int32) (role : Int32) (ver : Int32) (unt : Int64) (oa : Nat) (oc : Nat) (qo : Nat) (tq : Nat) (dq : Nat) (ha : Nat) (pn : Nat) (sg : Int32) (rk : Int32) (x : Int32) (r : Int32) (w : va_W) : Prop := w = [] ∧ r = b1 (may role x) ∧ (True)
set_option maxHeartbeats 4000000 in
set_option maxRecDepth 100000 in
theorem kX4_mayTellOf (l : Launch) (E : xE) (w0 : Nat) (nu : Int32) (role : Int32) (ver : Int32) (unt : Int64) (oa : Nat) (oc : Nat) (qo : Nat) (tq : Nat) (dq : Nat) (ha : Nat) (pn : Nat) (sg : Int32) (rk : Int32) (x : Int32)  : KT l yX4_mayTellOf wsX4_mayTellOf 0 0 0 0 E [] [(w0, .inr (5, [.int nu, .int role, .int ver, .long unt, .ref oa, .int (nI oc), .ref qo, .ref tq, .ref dq, .ref ha, .int (nI pn), .int sg, .int rk]))] [.ref w0, .int x] (QI E (pX4_mayTellOf E w0 nu role ver unt oa oc qo tq dq ha pn sg rk x)) := by
  refine KT.start (cc := cX4_mayTellOf) (maxL := 2) (ret := (some .boolean)) (by decide) rfl (Nat.le_of_ble_eq_true rfl) ?_
  intro p e s m below meth c A H hx hb hr hlocks hml hts hown hin hP hR0 hD hap hev hz hA hS ls hl
  have hl : lv_has ls 2 [(0, .ref w0), (1, .int x)] := hl
  have hiX4 : ∀ w ∈ wsX40, w ∈ wsX4_mayTellOf := by decide +kernel
  have hf56 := hts (.fieldLink RX4 56 "SignQuorum$Row" "role" "I") (by decide +kernel)
  refine lv_aload_n hx hb dX4_mayTellOf_0 rfl (lv_at hl 0 rfl) ?_
  refine va_get (D := E.1) (ci := 5) (v := .int role) (C := RX4) (T := TX4) (N := 13) hx hb hts hiX4 hown hev.1 (xro hR0 hap hS) 0 rfl rfl 1 (by decide) hf56 (fun _ h9 => h9) rfl dX4_mayTellOf_1 ?_
  refine lv_iconst (v := 1) hx hb dX4_mayTellOf_4 (by decide) ?_
  refine lv_icmp_ne (tgt := 19) hx hb dX4_mayTellOf_5 (by decide) (fun c1 => ?_) (fun c1 => ?_)
  · skip
    refine lv_aload_n hx hb dX4_mayTellOf_19 rfl (lv_at hl 0 rfl) ?_
    refine va_get (D := E.1) (ci := 5) (v := .int role) (C := RX4) (T := TX4) (N := 13) hx hb hts hiX4 hown hev.1 (xro hR0 hap hS) 0 rfl rfl 1 (by decide) hf56 (fun _ h9 => h9) rfl dX4_mayTellOf_20 ?_
    refine lv_iconst (v := 2) hx hb dX4_mayTellOf_23 (by decide) ?_
    refine lv_icmp_ne (tgt := 42) hx hb dX4_mayTellOf_24 (by decide) (fun c2 => ?_) (fun c2 => ?_)
    · skip
      refine lv_iconst (v := 0) hx hb dX4_mayTellOf_42 (by decide) ?_
      refine xrz hx hb hr hlocks (by first | rfl | decide) hP hD hS ⟨rfl, ?_, ?_⟩ dX4_mayTellOf_43
      · exact (b1_f (by unfold may; rw [if_neg c1]; exact fun h9 => c2 h9.1)).symm
      · trivial
    · skip
      refine lv_iload_n hx hb dX4_mayTellOf_27 rfl (lv_at hl 1 rfl) ?_
      refine lv_iconst (v := 3) hx hb dX4_mayTellOf_28 (by decide) ?_
      refine lv_icmp_lt (tgt := 42) hx hb dX4_mayTellOf_29 (by decide) (fun c3 => ?_) (fun c3 => ?_)
      · skip
        refine lv_iconst (v := 0) hx hb dX4_mayTellOf_42 (by decide) ?_
        refine xrz hx hb hr hlocks (by first | rfl | decide) hP hD hS ⟨rfl, ?_, ?_⟩ dX4_mayTellOf_43
        · exact (b1_f (by unfold may; rw [if_neg c1]; exact fun h9 => h9.2.1 c3)).symm
        · trivial
      · skip
        refine lv_iload_n hx hb dX4_mayTellOf_32 rfl (lv_at hl 1 rfl) ?_
        refine lv_bipush (v := 10) hx hb dX4_mayTellOf_33 (by decide) ?_
        refine lv_icmp_ge (tgt := 42) hx hb dX4_mayTellOf_35 (by decide) (fun c4 => ?_) (fun c4 => ?_)
        · skip
          refine lv_iconst (v := 0) hx hb dX4_mayTellOf_42 (by decide) ?_
          refine xrz hx hb hr hlocks (by first | rfl | decide) hP hD hS ⟨rfl, ?_, ?_⟩ dX4_mayTellOf_43
          · exact (b1_f (by unfold may; rw [if_neg c1]; exact fun h9 => h9.2.2 c4)).symm
          · trivial
        · skip
          refine lv_iconst (v := 1) hx hb dX4_mayTellOf_38 (by decide) ?_
          refine lv_goto (tgt := 43) hx hb dX4_mayTellOf_39 (by decide) ?_
          refine xrz hx hb hr hlocks (by first | rfl | decide) hP hD hS ⟨rfl, ?_, ?_⟩ dX4_mayTellOf_43
          · exact (b1_t (by unfold may; rw [if_neg c1]; exact ⟨c2, c3, c4⟩)).symm
          · trivial
  · skip
    refine lv_iload_n hx hb dX4_mayTellOf_8 rfl (lv_at hl 1 rfl) ?_
    refine lv_iconst (v := 2) hx hb dX4_mayTellOf_9 (by decide) ?_
    refine lv_icmp_ne (tgt := 17) hx hb dX4_mayTellOf_10 (by decide) (fun c5 => ?_) (fun c5 => ?_)
    · skip
      refine lv_iconst (v := 0) hx hb dX4_mayTellOf_17 (by decide) ?_
      refine xrz hx hb hr hlocks (by first | rfl | decide) hP hD hS ⟨rfl, ?_, ?_⟩ dX4_mayTellOf_18
      · exact (b1_f (by unfold may; rw [if_pos c1]; exact c5)).symm
      · trivial
    · skip
      refine lv_iconst (v := 1) hx hb dX4_mayTellOf_13 (by decide) ?_
      refine lv_goto (tgt := 18) hx hb dX4_mayTellOf_14 (by decide) ?_
      refine xrz hx hb hr hlocks (by first | rfl | decide) hP hD hS ⟨rfl, ?_, ?_⟩ dX4_mayTellOf_18
      · exact (b1_t (by unfold may; rw [if_pos c1]; exact c5)).symm
      · trivial

abbrev pX4_addOctet (E : xE) (w0 : Nat) (nu : Int32) (role : Int32) (ver : Int32) (unt : Int64) (oa : Nat) (oc : Nat) (qo : Nat) (tq : Nat) (dq : Nat) (ha : Nat) (pn : Nat) (sg : Int32) (rk : Int32) (fo : Nat → Int32) (b : Int32) (r : Int32) (w : va_W) : Prop := ∃ (oc2 : Nat) (go : Nat → Int32), w = [(w0, .inr (5, [.int nu, .int role, .int ver, .long unt, .ref oa, .int (nI oc2), .ref qo, .ref tq, .ref dq, .ref ha, .int (nI pn), .int sg, .int rk])), (oa, aB E 16 go)] ∧ ((16 ≤ oc ∧ r = -1 ∧ oc2 = oc ∧ go = fo) ∨ (oc < 16 ∧ r = nI (oc + 1) ∧ oc2 = oc + 1 ∧ go = upd fo oc (by8 b)))
set_option maxHeartbeats 4000000 in
set_option maxRecDepth 100000 in
theorem kX4_addOctet (l : Launch) (E : xE) (w0 : Nat) (nu : Int32) (role : Int32) (ver : Int32) (unt : Int64) (oa : Nat) (oc : Nat) (qo : Nat) (tq : Nat) (dq : Nat) (ha : Nat) (pn : Nat) (sg : Int32) (rk : Int32) (fo : Nat → Int32) (b : Int32) (hoc : oc ≤ 16) : KT l yX4_addOctet wsX4_addOctet 0 0 0 0 E [(w0, .inr (5, [.int nu, .int role, .int ver, .long unt, .ref oa, .int (nI oc), .ref qo, .ref tq, .ref dq, .ref ha, .int (nI pn), .int sg, .int rk])), (oa, aB E 16 fo)] [] [.ref w0, .int b] (QI E (pX4_addOctet E w0 nu role ver unt oa oc qo tq dq ha pn sg rk fo b)) := by
  refine KT.start (cc := cX4_addOctet) (maxL := 2) (ret := (some .int)) (by decide) rfl (Nat.le_of_ble_eq_true rfl) ?_
  intro p e s m below meth c A H hx hb hr hlocks hml hts hown hin hP hR0 hD hap hev hz hA hS ls hl
  have hl : lv_has ls 2 [(0, .ref w0), (1, .int b)] := hl
  have hiX4 : ∀ w ∈ wsX40, w ∈ wsX4_addOctet := by decide +kernel
  have hf15 := hts (.fieldLink RX4 15 "SignQuorum$Row" "octetCount" "I") (by decide +kernel)
  have hf9 := hts (.fieldLink RX4 9 "SignQuorum$Row" "octets" "[B") (by decide +kernel)
  refine lv_aload_n hx hb dX4_addOctet_0 rfl (lv_at hl 0 rfl) ?_
  refine va_get (D := E.1) (ci := 5) (v := .int (nI oc)) (C := RX4) (T := TX4) (N := 13) hx hb hts hiX4 hown hev.1 hP 0 rfl rfl 5 (by decide) hf15 (fun _ h9 => h9) rfl dX4_addOctet_1 ?_
  refine lv_bipush (v := 16) hx hb dX4_addOctet_4 (by decide) ?_
  refine lv_icmp_lt (tgt := 11) hx hb dX4_addOctet_6 (by decide) (fun c1 => ?_) (fun c1 => ?_)
  · skip
    have kc1 : oc < 16 := (nI_ltI (a := oc) (b := 16) (by omega) (by omega)).mp c1
    refine lv_aload_n hx hb dX4_addOctet_11 rfl (lv_at hl 0 rfl) ?_
    refine va_get (D := E.1) (ci := 5) (v := .ref oa) (C := RX4) (T := TX4) (N := 13) hx hb hts hiX4 hown hev.1 hP 0 rfl rfl 4 (by decide) hf9 (fun _ h9 => h9) rfl dX4_addOctet_12 ?_
    refine lv_aload_n hx hb dX4_addOctet_15 rfl (lv_at hl 0 rfl) ?_
    refine va_get (D := E.1) (ci := 5) (v := .int (nI oc)) (C := RX4) (T := TX4) (N := 13) hx hb hts hiX4 hown hev.1 hP 0 rfl rfl 5 (by decide) hf15 (fun _ h9 => h9) rfl dX4_addOctet_16 ?_
    refine lv_iload_n hx hb dX4_addOctet_19 rfl (lv_at hl 1 rfl) ?_
    refine lv_i2b (v := b.toInt8.toInt32) hx hb dX4_addOctet_20 rfl ?_
    refine xbast (k := oc) hx hb hev.1 hP hD hS 1 0 rfl rfl (by omega) (by decide) dX4_addOctet_21 (fun H locs hP hD hS => ?_)
    obtain ⟨f2, ef2⟩ : ∃ y9_ : Nat → Int32, y9_ = upd fo oc (vp_nar .byte b.toInt8.toInt32) := ⟨_, rfl⟩
    rw [← ef2] at hP hD
    have hP : va_P E.1 vwCl [(w0, .inr (5, [.int nu, .int role, .int ver, .long unt, .ref oa, .int (nI oc), .ref qo, .ref tq, .ref dq, .ref ha, .int (nI pn), .int sg, .int rk])), (oa, aB E 16 f2)] H := hP
    have hD : va_D A [(w0, .inr (5, [.int nu, .int role, .int ver, .long unt, .ref oa, .int (nI oc), .ref qo, .ref tq, .ref dq, .ref ha, .int (nI pn), .int sg, .int rk])), (oa, aB E 16 f2)] := hD
    refine lv_aload_n hx hb dX4_addOctet_22 rfl (lv_at hl 0 rfl) ?_
    refine lv_dup hx hb dX4_addOctet_23 rfl ?_
    refine va_get (D := E.1) (ci := 5) (v := .int (nI oc)) (C := RX4) (T := TX4) (N := 13) hx hb hts hiX4 hown hev.1 hP 0 rfl rfl 5 (by decide) hf15 (fun _ h9 => h9) rfl dX4_addOctet_24 ?_
    refine lv_iconst (v := 1) hx hb dX4_addOctet_27 (by decide) ?_
    refine lv_iadd hx hb dX4_addOctet_28 ?_
    refine xtop (y := nI (oc + 1)) ((nI_add oc 1).trans (congrArg nI (by omega))) ?_
    refine va_put (D := E.1) (ci := 5) (v := .int (nI (oc + 1))) (ty := tyX4 5) (C := RX4) (T := TX4) (N := 13) hx hb hts hiX4 tyX4 tyX4_ok nmX4 hown hev.1 hP hD hS 0 rfl rfl 5 (by decide) hf15 (fun _ h9 => h9) rfl (tyX4_ok 5 (by decide)) rfl rfl (Nat.le_of_ble_eq_true rfl) dX4_addOctet_29 (fun H locs hP hD hS => ?_)
    have hP : va_P E.1 vwCl [(w0, .inr (5, [.int nu, .int role, .int ver, .long unt, .ref oa, .int (nI (oc + 1)), .ref qo, .ref tq, .ref dq, .ref ha, .int (nI pn), .int sg, .int rk])), (oa, aB E 16 f2)] H := hP
    have hD : va_D A [(w0, .inr (5, [.int nu, .int role, .int ver, .long unt, .ref oa, .int (nI (oc + 1)), .ref qo, .ref tq, .ref dq, .ref ha, .int (nI pn), .int sg, .int rk])), (oa, aB E 16 f2)] := hD
    refine lv_aload_n hx hb dX4_addOctet_32 rfl (lv_at hl 0 rfl) ?_
    refine va_get (D := E.1) (ci := 5) (v := .int (nI (oc + 1))) (C := RX4) (T := TX4) (N := 13) hx hb hts hiX4 hown hev.1 hP 0 rfl rfl 5 (by decide) hf15 (fun _ h9 => h9) rfl dX4_addOctet_33 ?_
    refine xri hx hb hr hlocks hP hD hS ⟨(oc + 1), f2, rfl, ?_⟩ dX4_addOctet_36
    exact Or.inr ⟨by omega, rfl, rfl, by subst_vars; rw [pk_vb]; rfl⟩
  · skip
    have kc1 : ¬ oc < 16 := fun h9 => c1 ((nI_ltI (a := oc) (b := 16) (by omega) (by omega)).mpr h9)
    refine lv_iconst (v := (-1)) hx hb dX4_addOctet_9 (by decide) ?_
    refine xri hx hb hr hlocks hP hD hS ⟨oc, fo, rfl, ?_⟩ dX4_addOctet_10
    exact Or.inl ⟨by omega, rfl, rfl, rfl⟩

abbrev pX4_addPath (E : xE) (w0 : Nat) (nu : Int32) (role : Int32) (ver : Int32) (unt : Int64) (oa : Nat) (oc : Nat) (qo : Nat) (tq : Nat) (dq : Nat) (ha : Nat) (pn : Nat) (sg : Int32) (rk : Int32) (fh : Nat → Int32) (x : Int32) (r : Int32) (w : va_W) : Prop := ∃ (pn2 : Nat) (gh : Nat → Int32), w = [(w0, .inr (5, [.int nu, .int role, .int ver, .long unt, .ref oa, .int (nI oc), .ref qo, .ref tq, .ref dq, .ref ha, .int (nI pn2), .int sg, .int rk])), (ha, aI E 6 gh)] ∧ ((6 ≤ pn ∧ r = -1 ∧ pn2 = pn ∧ gh = fh) ∨ (pn < 6 ∧ r = nI (pn + 1) ∧ pn2 = pn + 1 ∧ gh = upd fh pn x))
set_option maxHeartbeats 4000000 in
set_option maxRecDepth 100000 in
theorem kX4_addPath (l : Launch) (E : xE) (w0 : Nat) (nu : Int32) (role : Int32) (ver : Int32) (unt : Int64) (oa : Nat) (oc : Nat) (qo : Nat) (tq : Nat) (dq : Nat) (ha : Nat) (pn : Nat) (sg : Int32) (rk : Int32) (fh : Nat → Int32) (x : Int32) (hpn : pn ≤ 6) : KT l yX4_addPath wsX4_addPath 0 0 0 0 E [(w0, .inr (5, [.int nu, .int role, .int ver, .long unt, .ref oa, .int (nI oc), .ref qo, .ref tq, .ref dq, .ref ha, .int (nI pn), .int sg, .int rk])), (ha, aI E 6 fh)] [] [.ref w0, .int x] (QI E (pX4_addPath E w0 nu role ver unt oa oc qo tq dq ha pn sg rk fh x)) := by
  refine KT.start (cc := cX4_addPath) (maxL := 2) (ret := (some .int)) (by decide) rfl (Nat.le_of_ble_eq_true rfl) ?_
  intro p e s m below meth c A H hx hb hr hlocks hml hts hown hin hP hR0 hD hap hev hz hA hS ls hl
  have hl : lv_has ls 2 [(0, .ref w0), (1, .int x)] := hl
  have hiX4 : ∀ w ∈ wsX40, w ∈ wsX4_addPath := by decide +kernel
  have hf40 := hts (.fieldLink RX4 40 "SignQuorum$Row" "paths" "[I") (by decide +kernel)
  have hf44 := hts (.fieldLink RX4 44 "SignQuorum$Row" "pathCount" "I") (by decide +kernel)
  refine lv_aload_n hx hb dX4_addPath_0 rfl (lv_at hl 0 rfl) ?_
  refine va_get (D := E.1) (ci := 5) (v := .int (nI pn)) (C := RX4) (T := TX4) (N := 13) hx hb hts hiX4 hown hev.1 hP 0 rfl rfl 10 (by decide) hf44 (fun _ h9 => h9) rfl dX4_addPath_1 ?_
  refine lv_bipush (v := 6) hx hb dX4_addPath_4 (by decide) ?_
  refine lv_icmp_lt (tgt := 11) hx hb dX4_addPath_6 (by decide) (fun c1 => ?_) (fun c1 => ?_)
  · skip
    have kc1 : pn < 6 := (nI_ltI (a := pn) (b := 6) (by omega) (by omega)).mp c1
    refine lv_aload_n hx hb dX4_addPath_11 rfl (lv_at hl 0 rfl) ?_
    refine va_get (D := E.1) (ci := 5) (v := .ref ha) (C := RX4) (T := TX4) (N := 13) hx hb hts hiX4 hown hev.1 hP 0 rfl rfl 9 (by decide) hf40 (fun _ h9 => h9) rfl dX4_addPath_12 ?_
    refine lv_aload_n hx hb dX4_addPath_15 rfl (lv_at hl 0 rfl) ?_
    refine va_get (D := E.1) (ci := 5) (v := .int (nI pn)) (C := RX4) (T := TX4) (N := 13) hx hb hts hiX4 hown hev.1 hP 0 rfl rfl 10 (by decide) hf44 (fun _ h9 => h9) rfl dX4_addPath_16 ?_
    refine lv_iload_n hx hb dX4_addPath_19 rfl (lv_at hl 1 rfl) ?_
    refine xiast (k := pn) hx hb hev.1 hP hD hS 1 1 rfl rfl (by omega) (by decide) dX4_addPath_20 (fun H locs hP hD hS => ?_)
    obtain ⟨f2, ef2⟩ : ∃ y9_ : Nat → Int32, y9_ = upd fh pn x := ⟨_, rfl⟩
    rw [← ef2] at hP hD
    have hP : va_P E.1 vwCl [(w0, .inr (5, [.int nu, .int role, .int ver, .long unt, .ref oa, .int (nI oc), .ref qo, .ref tq, .ref dq, .ref ha, .int (nI pn), .int sg, .int rk])), (ha, aI E 6 f2)] H := hP
    have hD : va_D A [(w0, .inr (5, [.int nu, .int role, .int ver, .long unt, .ref oa, .int (nI oc), .ref qo, .ref tq, .ref dq, .ref ha, .int (nI pn), .int sg, .int rk])), (ha, aI E 6 f2)] := hD
    refine lv_aload_n hx hb dX4_addPath_21 rfl (lv_at hl 0 rfl) ?_
    refine lv_dup hx hb dX4_addPath_22 rfl ?_
    refine va_get (D := E.1) (ci := 5) (v := .int (nI pn)) (C := RX4) (T := TX4) (N := 13) hx hb hts hiX4 hown hev.1 hP 0 rfl rfl 10 (by decide) hf44 (fun _ h9 => h9) rfl dX4_addPath_23 ?_
    refine lv_iconst (v := 1) hx hb dX4_addPath_26 (by decide) ?_
    refine lv_iadd hx hb dX4_addPath_27 ?_
    refine xtop (y := nI (pn + 1)) ((nI_add pn 1).trans (congrArg nI (by omega))) ?_
    refine va_put (D := E.1) (ci := 5) (v := .int (nI (pn + 1))) (ty := tyX4 10) (C := RX4) (T := TX4) (N := 13) hx hb hts hiX4 tyX4 tyX4_ok nmX4 hown hev.1 hP hD hS 0 rfl rfl 10 (by decide) hf44 (fun _ h9 => h9) rfl (tyX4_ok 10 (by decide)) rfl rfl (Nat.le_of_ble_eq_true rfl) dX4_addPath_28 (fun H locs hP hD hS => ?_)
    have hP : va_P E.1 vwCl [(w0, .inr (5, [.int nu, .int role, .int ver, .long unt, .ref oa, .int (nI oc), .ref qo, .ref tq, .ref dq, .ref ha, .int (nI (pn + 1)), .int sg, .int rk])), (ha, aI E 6 f2)] H := hP
    have hD : va_D A [(w0, .inr (5, [.int nu, .int role, .int ver, .long unt, .ref oa, .int (nI oc), .ref qo, .ref tq, .ref dq, .ref ha, .int (nI (pn + 1)), .int sg, .int rk])), (ha, aI E 6 f2)] := hD
    refine lv_aload_n hx hb dX4_addPath_31 rfl (lv_at hl 0 rfl) ?_
    refine va_get (D := E.1) (ci := 5) (v := .int (nI (pn + 1))) (C := RX4) (T := TX4) (N := 13) hx hb hts hiX4 hown hev.1 hP 0 rfl rfl 10 (by decide) hf44 (fun _ h9 => h9) rfl dX4_addPath_32 ?_
    refine xri hx hb hr hlocks hP hD hS ⟨(pn + 1), f2, rfl, ?_⟩ dX4_addPath_35
    exact Or.inr ⟨by omega, rfl, rfl, by assumption⟩
  · skip
    have kc1 : ¬ pn < 6 := fun h9 => c1 ((nI_ltI (a := pn) (b := 6) (by omega) (by omega)).mpr h9)
    refine lv_iconst (v := (-1)) hx hb dX4_addPath_9 (by decide) ?_
    refine xri hx hb hr hlocks hP hD hS ⟨pn, fh, rfl, ?_⟩ dX4_addPath_10
    exact Or.inl ⟨by omega, rfl, rfl, rfl⟩

abbrev pX4_hasPath (E : xE) (w0 : Nat) (nu : Int32) (role : Int32) (ver : Int32) (unt : Int64) (oa : Nat) (oc : Nat) (qo : Nat) (tq : Nat) (dq : Nat) (ha : Nat) (pn : Nat) (sg : Int32) (rk : Int32) (fh : Nat → Int32) (x : Int32) (r : Int32) (w : va_W) : Prop := w = [] ∧ r = b1 (∃ i, i < pn ∧ fh i = x) ∧ (True)
set_option maxHeartbeats 4000000 in
set_option maxRecDepth 100000 in
theorem kX4_hasPath (l : Launch) (E : xE) (w0 : Nat) (nu : Int32) (role : Int32) (ver : Int32) (unt : Int64) (oa : Nat) (oc : Nat) (qo : Nat) (tq : Nat) (dq : Nat) (ha : Nat) (pn : Nat) (sg : Int32) (rk : Int32) (fh : Nat → Int32) (x : Int32) (hpn : pn ≤ 6) : KT l yX4_hasPath wsX4_hasPath 0 0 0 0 E [] [(w0, .inr (5, [.int nu, .int role, .int ver, .long unt, .ref oa, .int (nI oc), .ref qo, .ref tq, .ref dq, .ref ha, .int (nI pn), .int sg, .int rk])), (ha, aI E 6 fh)] [.ref w0, .int x] (QI E (pX4_hasPath E w0 nu role ver unt oa oc qo tq dq ha pn sg rk fh x)) := by
  refine KT.start (cc := cX4_hasPath) (maxL := 3) (ret := (some .boolean)) (by decide) rfl (Nat.le_of_ble_eq_true rfl) ?_
  intro p e s m below meth c A H hx hb hr hlocks hml hts hown hin hP hR0 hD hap hev hz hA hS ls hl
  have hl : lv_has ls 3 [(0, .ref w0), (1, .int x)] := hl
  have hiX4 : ∀ w ∈ wsX40, w ∈ wsX4_hasPath := by decide +kernel
  have hf40 := hts (.fieldLink RX4 40 "SignQuorum$Row" "paths" "[I") (by decide +kernel)
  have hf44 := hts (.fieldLink RX4 44 "SignQuorum$Row" "pathCount" "I") (by decide +kernel)
  refine lv_iconst (v := 0) hx hb dX4_hasPath_0 (by decide) ?_
  refine lv_istore_n (lv' := [(2, .int 0), (0, .ref w0), (1, .int x)]) hx hb dX4_hasPath_1 rfl hl (by decide) rfl (fun ls hl => ?_)
  have loop2 : ∀ (fz : Nat) (i : Nat), (i ≤ pn) → (∀ k, k < i → ¬ fh k = x) → (pn - i < fz) → ∀ (H : Heap) (locs : List Loc), va_P E.1 vwCl [] H → va_D A [] → va_S A s.heap H locs → ∀ ls : Array Slot, lv_has ls 3 [(2, .int (nI i)), (0, .ref w0), (1, .int x)] → W p l e ({ frames := 0, cells := 0, slots := 0, locals := 0 } : Room) s m ([.ref w0, .int x] : List Value).toArray below meth c H locs 0 0 (MQ below (QI E (pX4_hasPath E w0 nu role ver unt oa oc qo tq dq ha pn sg rk fh x) A) ([.ref w0, .int x] : List Value).toArray s 0 0 A) (F0 m 2 ls []) := by
    intro fz
    induction fz with
    | zero =>
      intro i hi hno hfuel
      exact absurd hfuel (by omega)
    | succ fz ih =>
      intro i hi hno hfuel H locs hP hD hS ls hl
      refine lv_iload_n hx hb dX4_hasPath_2 rfl (lv_at hl 0 rfl) ?_
      refine lv_aload_n hx hb dX4_hasPath_3 rfl (lv_at hl 1 rfl) ?_
      refine va_get (D := E.1) (ci := 5) (v := .int (nI pn)) (C := RX4) (T := TX4) (N := 13) hx hb hts hiX4 hown hev.1 (xro hR0 hap hS) 0 rfl rfl 10 (by decide) hf44 (fun _ h9 => h9) rfl dX4_hasPath_4 ?_
      refine lv_icmp_ge (tgt := 28) hx hb dX4_hasPath_7 (by decide) (fun c1 => ?_) (fun c1 => ?_)
      · skip
        have kc1 : pn ≤ i := (nI_leI (a := pn) (b := i) (by omega) (by omega)).mp c1
        refine lv_iconst (v := 0) hx hb dX4_hasPath_28 (by decide) ?_
        refine xrz hx hb hr hlocks (by first | rfl | decide) hP hD hS ⟨rfl, ?_, ?_⟩ dX4_hasPath_29
        · exact (b1_f (fun ⟨k, h1, h2⟩ => hno k (by omega) h2)).symm
        · trivial
      · skip
        have kc1 : ¬ pn ≤ i := fun h9 => c1 ((nI_leI (a := pn) (b := i) (by omega) (by omega)).mpr h9)
        refine lv_aload_n hx hb dX4_hasPath_10 rfl (lv_at hl 1 rfl) ?_
        refine va_get (D := E.1) (ci := 5) (v := .ref ha) (C := RX4) (T := TX4) (N := 13) hx hb hts hiX4 hown hev.1 (xro hR0 hap hS) 0 rfl rfl 9 (by decide) hf40 (fun _ h9 => h9) rfl dX4_hasPath_11 ?_
        refine lv_iload_n hx hb dX4_hasPath_14 rfl (lv_at hl 0 rfl) ?_
        refine xiald (k := (i)) hx hb hev.1 (xro hR0 hap hS) 1 1 rfl rfl (by omega) (by decide) dX4_hasPath_15 ?_
        refine lv_iload_n hx hb dX4_hasPath_16 rfl (lv_at hl 2 rfl) ?_
        refine lv_icmp_ne (tgt := 22) hx hb dX4_hasPath_17 (by decide) (fun c2 => ?_) (fun c2 => ?_)
        · skip
          refine lv_iinc (v := nI (i + 1)) (lv' := [(2, .int (nI (i + 1))), (0, .ref w0), (1, .int x)]) hx hb dX4_hasPath_22 hl (k := 0) rfl ((nI_add i 1).trans (congrArg nI (by omega))) (by decide) rfl (fun ls hl => ?_)
          refine lv_goto (tgt := 2) hx hb dX4_hasPath_25 (by decide) ?_
          exact ih  (i + 1) (by omega) (lt_s hno c2) (by omega) _ _ hP hD hS ls (lv_sub hl [0, 1, 2] rfl)
        · skip
          refine lv_iconst (v := 1) hx hb dX4_hasPath_20 (by decide) ?_
          refine xrz hx hb hr hlocks (by first | rfl | decide) hP hD hS ⟨rfl, ?_, ?_⟩ dX4_hasPath_21
          · exact (b1_t ⟨i, by omega, c2⟩).symm
          · trivial
  exact loop2 (pn + 1) 0 (by omega) (fun _ h => absurd h (by omega)) (by omega) _ _ hP hD hS ls (lv_sub hl [0, 1, 2] rfl)

abbrev pX4_addSignature (E : xE) (w0 : Nat) (nu : Int32) (role : Int32) (ver : Int32) (unt : Int64) (oa : Nat) (oc : Nat) (qo : Nat) (tq : Nat) (dq : Nat) (ha : Nat) (pn : Nat) (sn : Nat) (rk : Int32) (k : Int32) (ri : Int32) (w : va_W) : Prop := ∃ (rk2 : Int32), w = [(w0, .inr (5, [.int nu, .int role, .int ver, .long unt, .ref oa, .int (nI oc), .ref qo, .ref tq, .ref dq, .ref ha, .int (nI pn), .int (nI (sn + 1)), .int rk2]))] ∧ ((ri = 0 → rk2 = rk) ∧ (¬ ri = 0 → rk2 = rk ||| (1 <<< (k &&& 31))))
set_option maxHeartbeats 4000000 in
set_option maxRecDepth 100000 in
theorem kX4_addSignature (l : Launch) (E : xE) (w0 : Nat) (nu : Int32) (role : Int32) (ver : Int32) (unt : Int64) (oa : Nat) (oc : Nat) (qo : Nat) (tq : Nat) (dq : Nat) (ha : Nat) (pn : Nat) (sn : Nat) (rk : Int32) (k : Int32) (ri : Int32)  : KT l yX4_addSignature wsX4_addSignature 0 0 0 0 E [(w0, .inr (5, [.int nu, .int role, .int ver, .long unt, .ref oa, .int (nI oc), .ref qo, .ref tq, .ref dq, .ref ha, .int (nI pn), .int (nI sn), .int rk]))] [] [.ref w0, .int k, .int ri] (QV E (pX4_addSignature E w0 nu role ver unt oa oc qo tq dq ha pn sn rk k ri)) := by
  refine KT.start (cc := cX4_addSignature) (maxL := 3) (ret := none) (by decide) rfl (Nat.le_of_ble_eq_true rfl) ?_
  intro p e s m below meth c A H hx hb hr hlocks hml hts hown hin hP hR0 hD hap hev hz hA hS ls hl
  have hl : lv_has ls 3 [(0, .ref w0), (1, .int k), (2, .int ri)] := hl
  have hiX4 : ∀ w ∈ wsX40, w ∈ wsX4_addSignature := by decide +kernel
  have hf47 := hts (.fieldLink RX4 47 "SignQuorum$Row" "signatureCount" "I") (by decide +kernel)
  have hf50 := hts (.fieldLink RX4 50 "SignQuorum$Row" "rightKeys" "I") (by decide +kernel)
  refine lv_aload_n hx hb dX4_addSignature_0 rfl (lv_at hl 0 rfl) ?_
  refine lv_dup hx hb dX4_addSignature_1 rfl ?_
  refine va_get (D := E.1) (ci := 5) (v := .int (nI sn)) (C := RX4) (T := TX4) (N := 13) hx hb hts hiX4 hown hev.1 hP 0 rfl rfl 11 (by decide) hf47 (fun _ h9 => h9) rfl dX4_addSignature_2 ?_
  refine lv_iconst (v := 1) hx hb dX4_addSignature_5 (by decide) ?_
  refine lv_iadd hx hb dX4_addSignature_6 ?_
  refine xtop (y := nI (sn + 1)) ((nI_add sn 1).trans (congrArg nI (by omega))) ?_
  refine va_put (D := E.1) (ci := 5) (v := .int (nI (sn + 1))) (ty := tyX4 11) (C := RX4) (T := TX4) (N := 13) hx hb hts hiX4 tyX4 tyX4_ok nmX4 hown hev.1 hP hD hS 0 rfl rfl 11 (by decide) hf47 (fun _ h9 => h9) rfl (tyX4_ok 11 (by decide)) rfl rfl (Nat.le_of_ble_eq_true rfl) dX4_addSignature_7 (fun H locs hP hD hS => ?_)
  have hP : va_P E.1 vwCl [(w0, .inr (5, [.int nu, .int role, .int ver, .long unt, .ref oa, .int (nI oc), .ref qo, .ref tq, .ref dq, .ref ha, .int (nI pn), .int (nI (sn + 1)), .int rk]))] H := hP
  have hD : va_D A [(w0, .inr (5, [.int nu, .int role, .int ver, .long unt, .ref oa, .int (nI oc), .ref qo, .ref tq, .ref dq, .ref ha, .int (nI pn), .int (nI (sn + 1)), .int rk]))] := hD
  refine lv_iload_n hx hb dX4_addSignature_10 rfl (lv_at hl 2 rfl) ?_
  refine lv_if_eq (tgt := 26) hx hb dX4_addSignature_11 (by decide) (fun c1 => ?_) (fun c1 => ?_)
  · skip
    refine xrv hx hb hr hlocks hP hD hS ⟨rk, rfl, ?_⟩ dX4_addSignature_26
    exact ⟨fun _ => rfl, fun h9 => absurd c1 h9⟩
  · skip
    refine lv_aload_n hx hb dX4_addSignature_14 rfl (lv_at hl 0 rfl) ?_
    refine lv_dup hx hb dX4_addSignature_15 rfl ?_
    refine va_get (D := E.1) (ci := 5) (v := .int rk) (C := RX4) (T := TX4) (N := 13) hx hb hts hiX4 hown hev.1 hP 0 rfl rfl 12 (by decide) hf50 (fun _ h9 => h9) rfl dX4_addSignature_16 ?_
    refine lv_iconst (v := 1) hx hb dX4_addSignature_19 (by decide) ?_
    refine lv_iload_n hx hb dX4_addSignature_20 rfl (lv_at hl 1 rfl) ?_
    refine lv_ishl hx hb dX4_addSignature_21 ?_
    refine lv_ior hx hb dX4_addSignature_22 ?_
    refine va_put (D := E.1) (ci := 5) (v := .int (rk ||| (1 <<< (k &&& 31)))) (ty := tyX4 12) (C := RX4) (T := TX4) (N := 13) hx hb hts hiX4 tyX4 tyX4_ok nmX4 hown hev.1 hP hD hS 0 rfl rfl 12 (by decide) hf50 (fun _ h9 => h9) rfl (tyX4_ok 12 (by decide)) rfl rfl (Nat.le_of_ble_eq_true rfl) dX4_addSignature_23 (fun H locs hP hD hS => ?_)
    have hP : va_P E.1 vwCl [(w0, .inr (5, [.int nu, .int role, .int ver, .long unt, .ref oa, .int (nI oc), .ref qo, .ref tq, .ref dq, .ref ha, .int (nI pn), .int (nI (sn + 1)), .int (rk ||| (1 <<< (k &&& 31)))]))] H := hP
    have hD : va_D A [(w0, .inr (5, [.int nu, .int role, .int ver, .long unt, .ref oa, .int (nI oc), .ref qo, .ref tq, .ref dq, .ref ha, .int (nI pn), .int (nI (sn + 1)), .int (rk ||| (1 <<< (k &&& 31)))]))] := hD
    refine xrv hx hb hr hlocks hP hD hS ⟨(rk ||| (1 <<< (k &&& 31))), rfl, ?_⟩ dX4_addSignature_26
    exact ⟨fun h9 => absurd h9 c1, fun _ => by subst_vars; rfl⟩

abbrev pX4_init (E : xE) (w0 : Nat) (nu : Int32) (role : Int32) (ver : Int32) (unt : Int64) (w : va_W) : Prop := ∃ (oa : Nat) (qo : Nat) (tq : Nat) (dq : Nat) (ha : Nat) (na : Nat) (ma : Nat) (ra : Nat) (va : Nat) (pa : Nat) (ta : Nat) (ea : Nat) (gn : Nat → Int32), w = [(w0, .inr (5, [.int nu, .int role, .int ver, .long unt, .ref oa, .int 0, .ref qo, .ref tq, .ref dq, .ref ha, .int 0, .int 0, .int 0])), (oa, aB E 16 (fun _ => 0)), (qo, .inr (4, [.ref na, .ref ma])), (na, aI E 10 gn), (ma, aI E 10 (fun _ => 0)), (tq, .inr (7, [.ref ra, .ref va, .int 0])), (ra, aI E 7 (fun _ => 0)), (va, aI E 7 (fun _ => 0)), (dq, .inr (2, [.ref pa, .ref ta, .ref ea, .int 0])), (pa, aI E 6 (fun _ => 0)), (ta, aI E 6 (fun _ => 0)), (ea, aZ E 6 (fun _ => 0)), (ha, aI E 6 (fun _ => 0))] ∧ (∀ k, k < 10 → gn k = 1)
set_option maxHeartbeats 4000000 in
set_option maxRecDepth 100000 in
theorem kX4_init (l : Launch) (E : xE) (w0 : Nat) (nu : Int32) (role : Int32) (ver : Int32) (unt : Int64)  : KT l yX4_init wsX4_init 2 33 12 83 E [(w0, .inr (5, [.int 0, .int 0, .int 0, .long 0, .null, .int 0, .null, .null, .null, .null, .int 0, .int 0, .int 0]))] [] [.ref w0, .int nu, .int role, .int ver, .long unt] (QV E (pX4_init E w0 nu role ver unt)) := by
  refine KT.start (cc := cX4_init) (maxL := 6) (ret := none) (by decide) rfl (Nat.le_of_ble_eq_true rfl) ?_
  intro p e s m below meth c A H hx hb hr hlocks hml hts hown hin hP hR0 hD hap hev hz hA hS ls hl
  have hl : lv_has ls 6 [(0, .ref w0), (1, .int nu), (2, .int role), (3, .int ver), (4, .long unt)] := hl
  have hiX1 : ∀ w ∈ wsX10, w ∈ wsX4_init := by decide +kernel
  have hiX3 : ∀ w ∈ wsX30, w ∈ wsX4_init := by decide +kernel
  have hiX4 : ∀ w ∈ wsX40, w ∈ wsX4_init := by decide +kernel
  have hiX6 : ∀ w ∈ wsX60, w ∈ wsX4_init := by decide +kernel
  have hacB := hts (.arrayClass .byte) (by decide +kernel)
  have hacI := hts (.arrayClass .int) (by decide +kernel)
  have hcl19 := hts (.classLink RX4 19 RX3) (by decide +kernel)
  have hcl26 := hts (.classLink RX4 26 RX6) (by decide +kernel)
  have hcl33 := hts (.classLink RX4 33 RX1) (by decide +kernel)
  have hf15 := hts (.fieldLink RX4 15 "SignQuorum$Row" "octetCount" "I") (by decide +kernel)
  have hf22 := hts (.fieldLink RX4 22 "SignQuorum$Row" "roster" "LSignQuorum$Roster;") (by decide +kernel)
  have hf29 := hts (.fieldLink RX4 29 "SignQuorum$Row" "told" "LSignQuorum$Told;") (by decide +kernel)
  have hf36 := hts (.fieldLink RX4 36 "SignQuorum$Row" "delegations" "LSignQuorum$Delegations;") (by decide +kernel)
  have hf40 := hts (.fieldLink RX4 40 "SignQuorum$Row" "paths" "[I") (by decide +kernel)
  have hf44 := hts (.fieldLink RX4 44 "SignQuorum$Row" "pathCount" "I") (by decide +kernel)
  have hf47 := hts (.fieldLink RX4 47 "SignQuorum$Row" "signatureCount" "I") (by decide +kernel)
  have hf50 := hts (.fieldLink RX4 50 "SignQuorum$Row" "rightKeys" "I") (by decide +kernel)
  have hf53 := hts (.fieldLink RX4 53 "SignQuorum$Row" "number" "I") (by decide +kernel)
  have hf56 := hts (.fieldLink RX4 56 "SignQuorum$Row" "role" "I") (by decide +kernel)
  have hf59 := hts (.fieldLink RX4 59 "SignQuorum$Row" "version" "I") (by decide +kernel)
  have hf62 := hts (.fieldLink RX4 62 "SignQuorum$Row" "until" "J") (by decide +kernel)
  have hf9 := hts (.fieldLink RX4 9 "SignQuorum$Row" "octets" "[B") (by decide +kernel)
  have himX1_init := hts (.instanceMethod yX1_init) (by decide +kernel)
  have himX3_init := hts (.instanceMethod yX3_init) (by decide +kernel)
  have himX6_init := hts (.instanceMethod yX6_init) (by decide +kernel)
  have hinX1 := hts (.instantiable RX1 4) (by decide +kernel)
  have hinX3 := hts (.instantiable RX3 2) (by decide +kernel)
  have hinX6 := hts (.instantiable RX6 3) (by decide +kernel)
  have hiniX1 := hts (.initialized RX1) (by decide +kernel)
  have hiniX3 := hts (.initialized RX3) (by decide +kernel)
  have hiniX6 := hts (.initialized RX6) (by decide +kernel)
  have hml21 := hts (.methodLink RX4 21 yX3_init) (by decide +kernel)
  have hoi3 := hts (.methodLink RX4 3 objectInit) (by decide +kernel)
  have hoj := hts (.instanceMethod objectInit) (by decide +kernel)
  refine lv_aload_n hx hb dX4_init_0 rfl (lv_at hl 0 rfl) ?_
  refine W.objInit hx hb hown hoi3 hoj (hts _ (List.mem_of_getElem? (i := 3) rfl)) rfl (by rw [hml]; exact hl.1) rfl dX4_init_1 (Nat.le_of_ble_eq_true rfl) (Nat.le_of_ble_eq_true rfl) ?_
  refine W.eq (g2 := F0 m 4 ls []) rfl ?_
  refine lv_aload_n hx hb dX4_init_4 rfl (lv_at hl 0 rfl) ?_
  refine lv_bipush (v := 16) hx hb dX4_init_5 (by decide) ?_
  refine xnewa (atype := .byte) (ty := .byte) (cA0 := E.2 0) (N' := 16) (a0 := (16, (.inl (fun _ => 0)))) hx hb hacB rfl 0 hev rfl hP hD hS hA (fun _ => rfl) (by decide) (by decide) (by decide +kernel) (Nat.le_of_ble_eq_true rfl) (Nat.le_of_ble_eq_true rfl) dX4_init_7 (fun q1 H hP hD hS => ?_)
  have hP : va_P E.1 vwCl [(w0, .inr (5, [.int 0, .int 0, .int 0, .long 0, .null, .int 0, .null, .null, .null, .null, .int 0, .int 0, .int 0])), (q1, aB E 16 (fun _ => 0))] H := hP
  have hD : va_D A [(w0, .inr (5, [.int 0, .int 0, .int 0, .long 0, .null, .int 0, .null, .null, .null, .null, .int 0, .int 0, .int 0])), (q1, aB E 16 (fun _ => 0))] := hD
  refine va_putF (D := E.1) (ci := 5) (v := .ref q1) (ty := tyX4 4) (C := RX4) (T := TX4) (N := 13) hx hb hts hiX4 tyX4 tyX4_ok nmX4 hown hev.1 hP hD hS 0 rfl rfl 4 (by decide) hf9 (fun _ h9 => h9) rfl hin rfl (tyX4_ok 4 (by decide)) rfl rfl (Nat.le_of_ble_eq_true rfl) dX4_init_9 (fun H locs hP hD hS => ?_)
  have hP : va_P E.1 vwCl [(w0, .inr (5, [.int 0, .int 0, .int 0, .long 0, .ref q1, .int 0, .null, .null, .null, .null, .int 0, .int 0, .int 0])), (q1, aB E 16 (fun _ => 0))] H := hP
  have hD : va_D A [(w0, .inr (5, [.int 0, .int 0, .int 0, .long 0, .ref q1, .int 0, .null, .null, .null, .null, .int 0, .int 0, .int 0])), (q1, aB E 16 (fun _ => 0))] := hD
  refine lv_aload_n hx hb dX4_init_12 rfl (lv_at hl 0 rfl) ?_
  refine lv_iconst (v := 0) hx hb dX4_init_13 (by decide) ?_
  refine va_put (D := E.1) (ci := 5) (v := .int 0) (ty := tyX4 5) (C := RX4) (T := TX4) (N := 13) hx hb hts hiX4 tyX4 tyX4_ok nmX4 hown hev.1 hP hD hS 0 rfl rfl 5 (by decide) hf15 (fun _ h9 => h9) rfl (tyX4_ok 5 (by decide)) rfl rfl (Nat.le_of_ble_eq_true rfl) dX4_init_14 (fun H locs hP hD hS => ?_)
  have hP : va_P E.1 vwCl [(w0, .inr (5, [.int 0, .int 0, .int 0, .long 0, .ref q1, .int 0, .null, .null, .null, .null, .int 0, .int 0, .int 0])), (q1, aB E 16 (fun _ => 0))] H := hP
  have hD : va_D A [(w0, .inr (5, [.int 0, .int 0, .int 0, .long 0, .ref q1, .int 0, .null, .null, .null, .null, .int 0, .int 0, .int 0])), (q1, aB E 16 (fun _ => 0))] := hD
  refine lv_aload_n hx hb dX4_init_17 rfl (lv_at hl 0 rfl) ?_
  refine va_new (ci := 4) (fs := [.null, .null]) (C := RX3) (T := TX3) (N := 2) hx hb hts hiX3 tyX3 tyX3_ok hown hcl19 hinX3 hiniX3 hev.1 hP hD hS hA rfl (by decide) (Nat.le_of_ble_eq_true rfl) (Nat.le_of_ble_eq_true rfl) dX4_init_18 (fun q2 H hP hD hS => ?_)
  have hP : va_P E.1 vwCl [(w0, .inr (5, [.int 0, .int 0, .int 0, .long 0, .ref q1, .int 0, .null, .null, .null, .null, .int 0, .int 0, .int 0])), (q1, aB E 16 (fun _ => 0)), (q2, .inr (4, [.null, .null]))] H := hP
  have hD : va_D A [(w0, .inr (5, [.int 0, .int 0, .int 0, .long 0, .ref q1, .int 0, .null, .null, .null, .null, .int 0, .int 0, .int 0])), (q1, aB E 16 (fun _ => 0)), (q2, .inr (4, [.null, .null]))] := hD
  refine lv_dup hx hb dX4_init_21 rfl ?_
  have hP := hP.sub (ws' := [(q2, .inr (4, [.null, .null]))] ++ [(w0, .inr (5, [.int 0, .int 0, .int 0, .long 0, .ref q1, .int 0, .null, .null, .null, .null, .int 0, .int 0, .int 0])), (q1, aB E 16 (fun _ => 0))]) [2, 0, 1] rfl
  have hD := hD.sub (ws' := [(q2, .inr (4, [.null, .null]))] ++ [(w0, .inr (5, [.int 0, .int 0, .int 0, .long 0, .ref q1, .int 0, .null, .null, .null, .null, .int 0, .int 0, .int 0])), (q1, aB E 16 (fun _ => 0))]) [2, 0, 1] (by decide) rfl
  refine xcv (va_runI (As := []) (rest := [.ref q2, .ref w0]) ⟨hx, hb, hml, hown, hts⟩ (kX3_init l E q2  H.size) (cwI 0 hts gX4_init_X3_init rfl rfl rfl hiniX3 hml21 himX3_init rfl (by decide +kernel) ⟨Nat.le_of_ble_eq_true rfl, Nat.le_of_ble_eq_true rfl⟩) ⟨CP.blind, (xpre hev hz hA hP hD hS hR0 hap [] rfl)⟩ rfl rfl hl.1 rfl (lv_room (Nat.le_of_ble_eq_true rfl)) dX4_init_22 ⟨Nat.le_of_ble_eq_true rfl, Nat.le_of_ble_eq_true rfl⟩) hP hD hS hA (fun w4 H locs h5 hP hD hS => ?_)
  obtain ⟨na6, ma7, gn8, rfl, h5⟩ := h5
  try dsimp only at h5
  have hP : va_P E.1 vwCl [(q2, .inr (4, [.ref na6, .ref ma7])), (na6, aI E 10 gn8), (ma7, aI E 10 (fun _ => 0)), (w0, .inr (5, [.int 0, .int 0, .int 0, .long 0, .ref q1, .int 0, .null, .null, .null, .null, .int 0, .int 0, .int 0])), (q1, aB E 16 (fun _ => 0))] H := hP
  have hD : va_D A [(q2, .inr (4, [.ref na6, .ref ma7])), (na6, aI E 10 gn8), (ma7, aI E 10 (fun _ => 0)), (w0, .inr (5, [.int 0, .int 0, .int 0, .long 0, .ref q1, .int 0, .null, .null, .null, .null, .int 0, .int 0, .int 0])), (q1, aB E 16 (fun _ => 0))] := hD
  refine va_putF (D := E.1) (ci := 5) (v := .ref q2) (ty := tyX4 6) (C := RX4) (T := TX4) (N := 13) hx hb hts hiX4 tyX4 tyX4_ok nmX4 hown hev.1 hP hD hS 3 rfl rfl 6 (by decide) hf22 (fun _ h9 => h9) rfl hin rfl (tyX4_ok 6 (by decide)) rfl rfl (Nat.le_of_ble_eq_true rfl) dX4_init_25 (fun H locs hP hD hS => ?_)
  have hP : va_P E.1 vwCl [(q2, .inr (4, [.ref na6, .ref ma7])), (na6, aI E 10 gn8), (ma7, aI E 10 (fun _ => 0)), (w0, .inr (5, [.int 0, .int 0, .int 0, .long 0, .ref q1, .int 0, .ref q2, .null, .null, .null, .int 0, .int 0, .int 0])), (q1, aB E 16 (fun _ => 0))] H := hP
  have hD : va_D A [(q2, .inr (4, [.ref na6, .ref ma7])), (na6, aI E 10 gn8), (ma7, aI E 10 (fun _ => 0)), (w0, .inr (5, [.int 0, .int 0, .int 0, .long 0, .ref q1, .int 0, .ref q2, .null, .null, .null, .int 0, .int 0, .int 0])), (q1, aB E 16 (fun _ => 0))] := hD
  refine lv_aload_n hx hb dX4_init_28 rfl (lv_at hl 0 rfl) ?_
  refine va_new (ci := 7) (fs := [.null, .null, .int 0]) (C := RX6) (T := TX6) (N := 3) hx hb hts hiX6 tyX6 tyX6_ok hown hcl26 hinX6 hiniX6 hev.1 hP hD hS hA rfl (by decide) (Nat.le_of_ble_eq_true rfl) (Nat.le_of_ble_eq_true rfl) dX4_init_29 (fun q9 H hP hD hS => ?_)
  have hP : va_P E.1 vwCl [(q2, .inr (4, [.ref na6, .ref ma7])), (na6, aI E 10 gn8), (ma7, aI E 10 (fun _ => 0)), (w0, .inr (5, [.int 0, .int 0, .int 0, .long 0, .ref q1, .int 0, .ref q2, .null, .null, .null, .int 0, .int 0, .int 0])), (q1, aB E 16 (fun _ => 0)), (q9, .inr (7, [.null, .null, .int 0]))] H := hP
  have hD : va_D A [(q2, .inr (4, [.ref na6, .ref ma7])), (na6, aI E 10 gn8), (ma7, aI E 10 (fun _ => 0)), (w0, .inr (5, [.int 0, .int 0, .int 0, .long 0, .ref q1, .int 0, .ref q2, .null, .null, .null, .int 0, .int 0, .int 0])), (q1, aB E 16 (fun _ => 0)), (q9, .inr (7, [.null, .null, .int 0]))] := hD
  refine lv_dup hx hb dX4_init_32 rfl ?_
  have hP := hP.sub (ws' := [(q9, .inr (7, [.null, .null, .int 0]))] ++ [(q2, .inr (4, [.ref na6, .ref ma7])), (na6, aI E 10 gn8), (ma7, aI E 10 (fun _ => 0)), (w0, .inr (5, [.int 0, .int 0, .int 0, .long 0, .ref q1, .int 0, .ref q2, .null, .null, .null, .int 0, .int 0, .int 0])), (q1, aB E 16 (fun _ => 0))]) [5, 0, 1, 2, 3, 4] rfl
  have hD := hD.sub (ws' := [(q9, .inr (7, [.null, .null, .int 0]))] ++ [(q2, .inr (4, [.ref na6, .ref ma7])), (na6, aI E 10 gn8), (ma7, aI E 10 (fun _ => 0)), (w0, .inr (5, [.int 0, .int 0, .int 0, .long 0, .ref q1, .int 0, .ref q2, .null, .null, .null, .int 0, .int 0, .int 0])), (q1, aB E 16 (fun _ => 0))]) [5, 0, 1, 2, 3, 4] (by decide) rfl
  refine xcv (va_runIN (As := []) (rest := [.ref q9, .ref w0]) ⟨hx, hb, hml, hown, hts⟩ (kX6_init l E q9  H.size) ⟨va_cnB 0 hts gX4_init_X6_init_n28 rfl rfl rfl (xNM3 hev.2.1) hiniX6 (by decide +kernel) ⟨Nat.le_of_ble_eq_true rfl, Nat.le_of_ble_eq_true rfl⟩, rfl, himX6_init⟩ ⟨CP.blind, (xpre hev hz hA hP hD hS hR0 hap [] rfl)⟩ rfl rfl hl.1 rfl (lv_room (Nat.le_of_ble_eq_true rfl)) dX4_init_33 ⟨Nat.le_of_ble_eq_true rfl, Nat.le_of_ble_eq_true rfl⟩) hP hD hS hA (fun w11 H locs h12 hP hD hS => ?_)
  obtain ⟨ra13, va14, rfl, h12⟩ := h12
  try dsimp only at h12
  have hP : va_P E.1 vwCl [(q9, .inr (7, [.ref ra13, .ref va14, .int 0])), (ra13, aI E 7 (fun _ => 0)), (va14, aI E 7 (fun _ => 0)), (q2, .inr (4, [.ref na6, .ref ma7])), (na6, aI E 10 gn8), (ma7, aI E 10 (fun _ => 0)), (w0, .inr (5, [.int 0, .int 0, .int 0, .long 0, .ref q1, .int 0, .ref q2, .null, .null, .null, .int 0, .int 0, .int 0])), (q1, aB E 16 (fun _ => 0))] H := hP
  have hD : va_D A [(q9, .inr (7, [.ref ra13, .ref va14, .int 0])), (ra13, aI E 7 (fun _ => 0)), (va14, aI E 7 (fun _ => 0)), (q2, .inr (4, [.ref na6, .ref ma7])), (na6, aI E 10 gn8), (ma7, aI E 10 (fun _ => 0)), (w0, .inr (5, [.int 0, .int 0, .int 0, .long 0, .ref q1, .int 0, .ref q2, .null, .null, .null, .int 0, .int 0, .int 0])), (q1, aB E 16 (fun _ => 0))] := hD
  refine va_putF (D := E.1) (ci := 5) (v := .ref q9) (ty := tyX4 7) (C := RX4) (T := TX4) (N := 13) hx hb hts hiX4 tyX4 tyX4_ok nmX4 hown hev.1 hP hD hS 6 rfl rfl 7 (by decide) hf29 (fun _ h9 => h9) rfl hin rfl (tyX4_ok 7 (by decide)) rfl rfl (Nat.le_of_ble_eq_true rfl) dX4_init_36 (fun H locs hP hD hS => ?_)
  have hP : va_P E.1 vwCl [(q9, .inr (7, [.ref ra13, .ref va14, .int 0])), (ra13, aI E 7 (fun _ => 0)), (va14, aI E 7 (fun _ => 0)), (q2, .inr (4, [.ref na6, .ref ma7])), (na6, aI E 10 gn8), (ma7, aI E 10 (fun _ => 0)), (w0, .inr (5, [.int 0, .int 0, .int 0, .long 0, .ref q1, .int 0, .ref q2, .ref q9, .null, .null, .int 0, .int 0, .int 0])), (q1, aB E 16 (fun _ => 0))] H := hP
  have hD : va_D A [(q9, .inr (7, [.ref ra13, .ref va14, .int 0])), (ra13, aI E 7 (fun _ => 0)), (va14, aI E 7 (fun _ => 0)), (q2, .inr (4, [.ref na6, .ref ma7])), (na6, aI E 10 gn8), (ma7, aI E 10 (fun _ => 0)), (w0, .inr (5, [.int 0, .int 0, .int 0, .long 0, .ref q1, .int 0, .ref q2, .ref q9, .null, .null, .int 0, .int 0, .int 0])), (q1, aB E 16 (fun _ => 0))] := hD
  refine lv_aload_n hx hb dX4_init_39 rfl (lv_at hl 0 rfl) ?_
  refine va_new (ci := 2) (fs := [.null, .null, .null, .int 0]) (C := RX1) (T := TX1) (N := 4) hx hb hts hiX1 tyX1 tyX1_ok hown hcl33 hinX1 hiniX1 hev.1 hP hD hS hA rfl (by decide) (Nat.le_of_ble_eq_true rfl) (Nat.le_of_ble_eq_true rfl) dX4_init_40 (fun q15 H hP hD hS => ?_)
  have hP : va_P E.1 vwCl [(q9, .inr (7, [.ref ra13, .ref va14, .int 0])), (ra13, aI E 7 (fun _ => 0)), (va14, aI E 7 (fun _ => 0)), (q2, .inr (4, [.ref na6, .ref ma7])), (na6, aI E 10 gn8), (ma7, aI E 10 (fun _ => 0)), (w0, .inr (5, [.int 0, .int 0, .int 0, .long 0, .ref q1, .int 0, .ref q2, .ref q9, .null, .null, .int 0, .int 0, .int 0])), (q1, aB E 16 (fun _ => 0)), (q15, .inr (2, [.null, .null, .null, .int 0]))] H := hP
  have hD : va_D A [(q9, .inr (7, [.ref ra13, .ref va14, .int 0])), (ra13, aI E 7 (fun _ => 0)), (va14, aI E 7 (fun _ => 0)), (q2, .inr (4, [.ref na6, .ref ma7])), (na6, aI E 10 gn8), (ma7, aI E 10 (fun _ => 0)), (w0, .inr (5, [.int 0, .int 0, .int 0, .long 0, .ref q1, .int 0, .ref q2, .ref q9, .null, .null, .int 0, .int 0, .int 0])), (q1, aB E 16 (fun _ => 0)), (q15, .inr (2, [.null, .null, .null, .int 0]))] := hD
  refine lv_dup hx hb dX4_init_43 rfl ?_
  have hP := hP.sub (ws' := [(q15, .inr (2, [.null, .null, .null, .int 0]))] ++ [(q9, .inr (7, [.ref ra13, .ref va14, .int 0])), (ra13, aI E 7 (fun _ => 0)), (va14, aI E 7 (fun _ => 0)), (q2, .inr (4, [.ref na6, .ref ma7])), (na6, aI E 10 gn8), (ma7, aI E 10 (fun _ => 0)), (w0, .inr (5, [.int 0, .int 0, .int 0, .long 0, .ref q1, .int 0, .ref q2, .ref q9, .null, .null, .int 0, .int 0, .int 0])), (q1, aB E 16 (fun _ => 0))]) [8, 0, 1, 2, 3, 4, 5, 6, 7] rfl
  have hD := hD.sub (ws' := [(q15, .inr (2, [.null, .null, .null, .int 0]))] ++ [(q9, .inr (7, [.ref ra13, .ref va14, .int 0])), (ra13, aI E 7 (fun _ => 0)), (va14, aI E 7 (fun _ => 0)), (q2, .inr (4, [.ref na6, .ref ma7])), (na6, aI E 10 gn8), (ma7, aI E 10 (fun _ => 0)), (w0, .inr (5, [.int 0, .int 0, .int 0, .long 0, .ref q1, .int 0, .ref q2, .ref q9, .null, .null, .int 0, .int 0, .int 0])), (q1, aB E 16 (fun _ => 0))]) [8, 0, 1, 2, 3, 4, 5, 6, 7] (by decide) rfl
  refine xcv (va_runIN (As := []) (rest := [.ref q15, .ref w0]) ⟨hx, hb, hml, hown, hts⟩ (kX1_init l E q15  H.size) ⟨va_cnB 0 hts gX4_init_X1_init_n35 rfl rfl rfl (xNM4 hev.2.1) hiniX1 (by decide +kernel) ⟨Nat.le_of_ble_eq_true rfl, Nat.le_of_ble_eq_true rfl⟩, rfl, himX1_init⟩ ⟨CP.blind, (xpre hev hz hA hP hD hS hR0 hap [] rfl)⟩ rfl rfl hl.1 rfl (lv_room (Nat.le_of_ble_eq_true rfl)) dX4_init_44 ⟨Nat.le_of_ble_eq_true rfl, Nat.le_of_ble_eq_true rfl⟩) hP hD hS hA (fun w17 H locs h18 hP hD hS => ?_)
  obtain ⟨pa19, ta20, ea21, rfl, h18⟩ := h18
  try dsimp only at h18
  have hP : va_P E.1 vwCl [(q15, .inr (2, [.ref pa19, .ref ta20, .ref ea21, .int 0])), (pa19, aI E 6 (fun _ => 0)), (ta20, aI E 6 (fun _ => 0)), (ea21, aZ E 6 (fun _ => 0)), (q9, .inr (7, [.ref ra13, .ref va14, .int 0])), (ra13, aI E 7 (fun _ => 0)), (va14, aI E 7 (fun _ => 0)), (q2, .inr (4, [.ref na6, .ref ma7])), (na6, aI E 10 gn8), (ma7, aI E 10 (fun _ => 0)), (w0, .inr (5, [.int 0, .int 0, .int 0, .long 0, .ref q1, .int 0, .ref q2, .ref q9, .null, .null, .int 0, .int 0, .int 0])), (q1, aB E 16 (fun _ => 0))] H := hP
  have hD : va_D A [(q15, .inr (2, [.ref pa19, .ref ta20, .ref ea21, .int 0])), (pa19, aI E 6 (fun _ => 0)), (ta20, aI E 6 (fun _ => 0)), (ea21, aZ E 6 (fun _ => 0)), (q9, .inr (7, [.ref ra13, .ref va14, .int 0])), (ra13, aI E 7 (fun _ => 0)), (va14, aI E 7 (fun _ => 0)), (q2, .inr (4, [.ref na6, .ref ma7])), (na6, aI E 10 gn8), (ma7, aI E 10 (fun _ => 0)), (w0, .inr (5, [.int 0, .int 0, .int 0, .long 0, .ref q1, .int 0, .ref q2, .ref q9, .null, .null, .int 0, .int 0, .int 0])), (q1, aB E 16 (fun _ => 0))] := hD
  refine va_putF (D := E.1) (ci := 5) (v := .ref q15) (ty := tyX4 8) (C := RX4) (T := TX4) (N := 13) hx hb hts hiX4 tyX4 tyX4_ok nmX4 hown hev.1 hP hD hS 10 rfl rfl 8 (by decide) hf36 (fun _ h9 => h9) rfl hin rfl (tyX4_ok 8 (by decide)) rfl rfl (Nat.le_of_ble_eq_true rfl) dX4_init_47 (fun H locs hP hD hS => ?_)
  have hP : va_P E.1 vwCl [(q15, .inr (2, [.ref pa19, .ref ta20, .ref ea21, .int 0])), (pa19, aI E 6 (fun _ => 0)), (ta20, aI E 6 (fun _ => 0)), (ea21, aZ E 6 (fun _ => 0)), (q9, .inr (7, [.ref ra13, .ref va14, .int 0])), (ra13, aI E 7 (fun _ => 0)), (va14, aI E 7 (fun _ => 0)), (q2, .inr (4, [.ref na6, .ref ma7])), (na6, aI E 10 gn8), (ma7, aI E 10 (fun _ => 0)), (w0, .inr (5, [.int 0, .int 0, .int 0, .long 0, .ref q1, .int 0, .ref q2, .ref q9, .ref q15, .null, .int 0, .int 0, .int 0])), (q1, aB E 16 (fun _ => 0))] H := hP
  have hD : va_D A [(q15, .inr (2, [.ref pa19, .ref ta20, .ref ea21, .int 0])), (pa19, aI E 6 (fun _ => 0)), (ta20, aI E 6 (fun _ => 0)), (ea21, aZ E 6 (fun _ => 0)), (q9, .inr (7, [.ref ra13, .ref va14, .int 0])), (ra13, aI E 7 (fun _ => 0)), (va14, aI E 7 (fun _ => 0)), (q2, .inr (4, [.ref na6, .ref ma7])), (na6, aI E 10 gn8), (ma7, aI E 10 (fun _ => 0)), (w0, .inr (5, [.int 0, .int 0, .int 0, .long 0, .ref q1, .int 0, .ref q2, .ref q9, .ref q15, .null, .int 0, .int 0, .int 0])), (q1, aB E 16 (fun _ => 0))] := hD
  refine lv_aload_n hx hb dX4_init_50 rfl (lv_at hl 0 rfl) ?_
  refine lv_bipush (v := 6) hx hb dX4_init_51 (by decide) ?_
  refine xnewa (atype := .int) (ty := .int) (cA0 := E.2 1) (N' := 6) (a0 := (6, (.inl (fun _ => 0)))) hx hb hacI rfl 1 hev rfl hP hD hS hA (fun _ => rfl) (by decide) (by decide) (by decide +kernel) (Nat.le_of_ble_eq_true rfl) (Nat.le_of_ble_eq_true rfl) dX4_init_53 (fun q22 H hP hD hS => ?_)
  have hP : va_P E.1 vwCl [(q15, .inr (2, [.ref pa19, .ref ta20, .ref ea21, .int 0])), (pa19, aI E 6 (fun _ => 0)), (ta20, aI E 6 (fun _ => 0)), (ea21, aZ E 6 (fun _ => 0)), (q9, .inr (7, [.ref ra13, .ref va14, .int 0])), (ra13, aI E 7 (fun _ => 0)), (va14, aI E 7 (fun _ => 0)), (q2, .inr (4, [.ref na6, .ref ma7])), (na6, aI E 10 gn8), (ma7, aI E 10 (fun _ => 0)), (w0, .inr (5, [.int 0, .int 0, .int 0, .long 0, .ref q1, .int 0, .ref q2, .ref q9, .ref q15, .null, .int 0, .int 0, .int 0])), (q1, aB E 16 (fun _ => 0)), (q22, aI E 6 (fun _ => 0))] H := hP
  have hD : va_D A [(q15, .inr (2, [.ref pa19, .ref ta20, .ref ea21, .int 0])), (pa19, aI E 6 (fun _ => 0)), (ta20, aI E 6 (fun _ => 0)), (ea21, aZ E 6 (fun _ => 0)), (q9, .inr (7, [.ref ra13, .ref va14, .int 0])), (ra13, aI E 7 (fun _ => 0)), (va14, aI E 7 (fun _ => 0)), (q2, .inr (4, [.ref na6, .ref ma7])), (na6, aI E 10 gn8), (ma7, aI E 10 (fun _ => 0)), (w0, .inr (5, [.int 0, .int 0, .int 0, .long 0, .ref q1, .int 0, .ref q2, .ref q9, .ref q15, .null, .int 0, .int 0, .int 0])), (q1, aB E 16 (fun _ => 0)), (q22, aI E 6 (fun _ => 0))] := hD
  refine va_putF (D := E.1) (ci := 5) (v := .ref q22) (ty := tyX4 9) (C := RX4) (T := TX4) (N := 13) hx hb hts hiX4 tyX4 tyX4_ok nmX4 hown hev.1 hP hD hS 10 rfl rfl 9 (by decide) hf40 (fun _ h9 => h9) rfl hin rfl (tyX4_ok 9 (by decide)) rfl rfl (Nat.le_of_ble_eq_true rfl) dX4_init_55 (fun H locs hP hD hS => ?_)
  have hP : va_P E.1 vwCl [(q15, .inr (2, [.ref pa19, .ref ta20, .ref ea21, .int 0])), (pa19, aI E 6 (fun _ => 0)), (ta20, aI E 6 (fun _ => 0)), (ea21, aZ E 6 (fun _ => 0)), (q9, .inr (7, [.ref ra13, .ref va14, .int 0])), (ra13, aI E 7 (fun _ => 0)), (va14, aI E 7 (fun _ => 0)), (q2, .inr (4, [.ref na6, .ref ma7])), (na6, aI E 10 gn8), (ma7, aI E 10 (fun _ => 0)), (w0, .inr (5, [.int 0, .int 0, .int 0, .long 0, .ref q1, .int 0, .ref q2, .ref q9, .ref q15, .ref q22, .int 0, .int 0, .int 0])), (q1, aB E 16 (fun _ => 0)), (q22, aI E 6 (fun _ => 0))] H := hP
  have hD : va_D A [(q15, .inr (2, [.ref pa19, .ref ta20, .ref ea21, .int 0])), (pa19, aI E 6 (fun _ => 0)), (ta20, aI E 6 (fun _ => 0)), (ea21, aZ E 6 (fun _ => 0)), (q9, .inr (7, [.ref ra13, .ref va14, .int 0])), (ra13, aI E 7 (fun _ => 0)), (va14, aI E 7 (fun _ => 0)), (q2, .inr (4, [.ref na6, .ref ma7])), (na6, aI E 10 gn8), (ma7, aI E 10 (fun _ => 0)), (w0, .inr (5, [.int 0, .int 0, .int 0, .long 0, .ref q1, .int 0, .ref q2, .ref q9, .ref q15, .ref q22, .int 0, .int 0, .int 0])), (q1, aB E 16 (fun _ => 0)), (q22, aI E 6 (fun _ => 0))] := hD
  refine lv_aload_n hx hb dX4_init_58 rfl (lv_at hl 0 rfl) ?_
  refine lv_iconst (v := 0) hx hb dX4_init_59 (by decide) ?_
  refine va_put (D := E.1) (ci := 5) (v := .int 0) (ty := tyX4 10) (C := RX4) (T := TX4) (N := 13) hx hb hts hiX4 tyX4 tyX4_ok nmX4 hown hev.1 hP hD hS 10 rfl rfl 10 (by decide) hf44 (fun _ h9 => h9) rfl (tyX4_ok 10 (by decide)) rfl rfl (Nat.le_of_ble_eq_true rfl) dX4_init_60 (fun H locs hP hD hS => ?_)
  have hP : va_P E.1 vwCl [(q15, .inr (2, [.ref pa19, .ref ta20, .ref ea21, .int 0])), (pa19, aI E 6 (fun _ => 0)), (ta20, aI E 6 (fun _ => 0)), (ea21, aZ E 6 (fun _ => 0)), (q9, .inr (7, [.ref ra13, .ref va14, .int 0])), (ra13, aI E 7 (fun _ => 0)), (va14, aI E 7 (fun _ => 0)), (q2, .inr (4, [.ref na6, .ref ma7])), (na6, aI E 10 gn8), (ma7, aI E 10 (fun _ => 0)), (w0, .inr (5, [.int 0, .int 0, .int 0, .long 0, .ref q1, .int 0, .ref q2, .ref q9, .ref q15, .ref q22, .int 0, .int 0, .int 0])), (q1, aB E 16 (fun _ => 0)), (q22, aI E 6 (fun _ => 0))] H := hP
  have hD : va_D A [(q15, .inr (2, [.ref pa19, .ref ta20, .ref ea21, .int 0])), (pa19, aI E 6 (fun _ => 0)), (ta20, aI E 6 (fun _ => 0)), (ea21, aZ E 6 (fun _ => 0)), (q9, .inr (7, [.ref ra13, .ref va14, .int 0])), (ra13, aI E 7 (fun _ => 0)), (va14, aI E 7 (fun _ => 0)), (q2, .inr (4, [.ref na6, .ref ma7])), (na6, aI E 10 gn8), (ma7, aI E 10 (fun _ => 0)), (w0, .inr (5, [.int 0, .int 0, .int 0, .long 0, .ref q1, .int 0, .ref q2, .ref q9, .ref q15, .ref q22, .int 0, .int 0, .int 0])), (q1, aB E 16 (fun _ => 0)), (q22, aI E 6 (fun _ => 0))] := hD
  refine lv_aload_n hx hb dX4_init_63 rfl (lv_at hl 0 rfl) ?_
  refine lv_iconst (v := 0) hx hb dX4_init_64 (by decide) ?_
  refine va_put (D := E.1) (ci := 5) (v := .int 0) (ty := tyX4 11) (C := RX4) (T := TX4) (N := 13) hx hb hts hiX4 tyX4 tyX4_ok nmX4 hown hev.1 hP hD hS 10 rfl rfl 11 (by decide) hf47 (fun _ h9 => h9) rfl (tyX4_ok 11 (by decide)) rfl rfl (Nat.le_of_ble_eq_true rfl) dX4_init_65 (fun H locs hP hD hS => ?_)
  have hP : va_P E.1 vwCl [(q15, .inr (2, [.ref pa19, .ref ta20, .ref ea21, .int 0])), (pa19, aI E 6 (fun _ => 0)), (ta20, aI E 6 (fun _ => 0)), (ea21, aZ E 6 (fun _ => 0)), (q9, .inr (7, [.ref ra13, .ref va14, .int 0])), (ra13, aI E 7 (fun _ => 0)), (va14, aI E 7 (fun _ => 0)), (q2, .inr (4, [.ref na6, .ref ma7])), (na6, aI E 10 gn8), (ma7, aI E 10 (fun _ => 0)), (w0, .inr (5, [.int 0, .int 0, .int 0, .long 0, .ref q1, .int 0, .ref q2, .ref q9, .ref q15, .ref q22, .int 0, .int 0, .int 0])), (q1, aB E 16 (fun _ => 0)), (q22, aI E 6 (fun _ => 0))] H := hP
  have hD : va_D A [(q15, .inr (2, [.ref pa19, .ref ta20, .ref ea21, .int 0])), (pa19, aI E 6 (fun _ => 0)), (ta20, aI E 6 (fun _ => 0)), (ea21, aZ E 6 (fun _ => 0)), (q9, .inr (7, [.ref ra13, .ref va14, .int 0])), (ra13, aI E 7 (fun _ => 0)), (va14, aI E 7 (fun _ => 0)), (q2, .inr (4, [.ref na6, .ref ma7])), (na6, aI E 10 gn8), (ma7, aI E 10 (fun _ => 0)), (w0, .inr (5, [.int 0, .int 0, .int 0, .long 0, .ref q1, .int 0, .ref q2, .ref q9, .ref q15, .ref q22, .int 0, .int 0, .int 0])), (q1, aB E 16 (fun _ => 0)), (q22, aI E 6 (fun _ => 0))] := hD
  refine lv_aload_n hx hb dX4_init_68 rfl (lv_at hl 0 rfl) ?_
  refine lv_iconst (v := 0) hx hb dX4_init_69 (by decide) ?_
  refine va_put (D := E.1) (ci := 5) (v := .int 0) (ty := tyX4 12) (C := RX4) (T := TX4) (N := 13) hx hb hts hiX4 tyX4 tyX4_ok nmX4 hown hev.1 hP hD hS 10 rfl rfl 12 (by decide) hf50 (fun _ h9 => h9) rfl (tyX4_ok 12 (by decide)) rfl rfl (Nat.le_of_ble_eq_true rfl) dX4_init_70 (fun H locs hP hD hS => ?_)
  have hP : va_P E.1 vwCl [(q15, .inr (2, [.ref pa19, .ref ta20, .ref ea21, .int 0])), (pa19, aI E 6 (fun _ => 0)), (ta20, aI E 6 (fun _ => 0)), (ea21, aZ E 6 (fun _ => 0)), (q9, .inr (7, [.ref ra13, .ref va14, .int 0])), (ra13, aI E 7 (fun _ => 0)), (va14, aI E 7 (fun _ => 0)), (q2, .inr (4, [.ref na6, .ref ma7])), (na6, aI E 10 gn8), (ma7, aI E 10 (fun _ => 0)), (w0, .inr (5, [.int 0, .int 0, .int 0, .long 0, .ref q1, .int 0, .ref q2, .ref q9, .ref q15, .ref q22, .int 0, .int 0, .int 0])), (q1, aB E 16 (fun _ => 0)), (q22, aI E 6 (fun _ => 0))] H := hP
  have hD : va_D A [(q15, .inr (2, [.ref pa19, .ref ta20, .ref ea21, .int 0])), (pa19, aI E 6 (fun _ => 0)), (ta20, aI E 6 (fun _ => 0)), (ea21, aZ E 6 (fun _ => 0)), (q9, .inr (7, [.ref ra13, .ref va14, .int 0])), (ra13, aI E 7 (fun _ => 0)), (va14, aI E 7 (fun _ => 0)), (q2, .inr (4, [.ref na6, .ref ma7])), (na6, aI E 10 gn8), (ma7, aI E 10 (fun _ => 0)), (w0, .inr (5, [.int 0, .int 0, .int 0, .long 0, .ref q1, .int 0, .ref q2, .ref q9, .ref q15, .ref q22, .int 0, .int 0, .int 0])), (q1, aB E 16 (fun _ => 0)), (q22, aI E 6 (fun _ => 0))] := hD
  refine lv_aload_n hx hb dX4_init_73 rfl (lv_at hl 0 rfl) ?_
  refine lv_iload_n hx hb dX4_init_74 rfl (lv_at hl 1 rfl) ?_
  refine va_putF (D := E.1) (ci := 5) (v := .int nu) (ty := tyX4 0) (C := RX4) (T := TX4) (N := 13) hx hb hts hiX4 tyX4 tyX4_ok nmX4 hown hev.1 hP hD hS 10 rfl rfl 0 (by decide) hf53 (fun _ h9 => h9) rfl hin rfl (tyX4_ok 0 (by decide)) rfl rfl (Nat.le_of_ble_eq_true rfl) dX4_init_75 (fun H locs hP hD hS => ?_)
  have hP : va_P E.1 vwCl [(q15, .inr (2, [.ref pa19, .ref ta20, .ref ea21, .int 0])), (pa19, aI E 6 (fun _ => 0)), (ta20, aI E 6 (fun _ => 0)), (ea21, aZ E 6 (fun _ => 0)), (q9, .inr (7, [.ref ra13, .ref va14, .int 0])), (ra13, aI E 7 (fun _ => 0)), (va14, aI E 7 (fun _ => 0)), (q2, .inr (4, [.ref na6, .ref ma7])), (na6, aI E 10 gn8), (ma7, aI E 10 (fun _ => 0)), (w0, .inr (5, [.int nu, .int 0, .int 0, .long 0, .ref q1, .int 0, .ref q2, .ref q9, .ref q15, .ref q22, .int 0, .int 0, .int 0])), (q1, aB E 16 (fun _ => 0)), (q22, aI E 6 (fun _ => 0))] H := hP
  have hD : va_D A [(q15, .inr (2, [.ref pa19, .ref ta20, .ref ea21, .int 0])), (pa19, aI E 6 (fun _ => 0)), (ta20, aI E 6 (fun _ => 0)), (ea21, aZ E 6 (fun _ => 0)), (q9, .inr (7, [.ref ra13, .ref va14, .int 0])), (ra13, aI E 7 (fun _ => 0)), (va14, aI E 7 (fun _ => 0)), (q2, .inr (4, [.ref na6, .ref ma7])), (na6, aI E 10 gn8), (ma7, aI E 10 (fun _ => 0)), (w0, .inr (5, [.int nu, .int 0, .int 0, .long 0, .ref q1, .int 0, .ref q2, .ref q9, .ref q15, .ref q22, .int 0, .int 0, .int 0])), (q1, aB E 16 (fun _ => 0)), (q22, aI E 6 (fun _ => 0))] := hD
  refine lv_aload_n hx hb dX4_init_78 rfl (lv_at hl 0 rfl) ?_
  refine lv_iload_n hx hb dX4_init_79 rfl (lv_at hl 2 rfl) ?_
  refine va_putF (D := E.1) (ci := 5) (v := .int role) (ty := tyX4 1) (C := RX4) (T := TX4) (N := 13) hx hb hts hiX4 tyX4 tyX4_ok nmX4 hown hev.1 hP hD hS 10 rfl rfl 1 (by decide) hf56 (fun _ h9 => h9) rfl hin rfl (tyX4_ok 1 (by decide)) rfl rfl (Nat.le_of_ble_eq_true rfl) dX4_init_80 (fun H locs hP hD hS => ?_)
  have hP : va_P E.1 vwCl [(q15, .inr (2, [.ref pa19, .ref ta20, .ref ea21, .int 0])), (pa19, aI E 6 (fun _ => 0)), (ta20, aI E 6 (fun _ => 0)), (ea21, aZ E 6 (fun _ => 0)), (q9, .inr (7, [.ref ra13, .ref va14, .int 0])), (ra13, aI E 7 (fun _ => 0)), (va14, aI E 7 (fun _ => 0)), (q2, .inr (4, [.ref na6, .ref ma7])), (na6, aI E 10 gn8), (ma7, aI E 10 (fun _ => 0)), (w0, .inr (5, [.int nu, .int role, .int 0, .long 0, .ref q1, .int 0, .ref q2, .ref q9, .ref q15, .ref q22, .int 0, .int 0, .int 0])), (q1, aB E 16 (fun _ => 0)), (q22, aI E 6 (fun _ => 0))] H := hP
  have hD : va_D A [(q15, .inr (2, [.ref pa19, .ref ta20, .ref ea21, .int 0])), (pa19, aI E 6 (fun _ => 0)), (ta20, aI E 6 (fun _ => 0)), (ea21, aZ E 6 (fun _ => 0)), (q9, .inr (7, [.ref ra13, .ref va14, .int 0])), (ra13, aI E 7 (fun _ => 0)), (va14, aI E 7 (fun _ => 0)), (q2, .inr (4, [.ref na6, .ref ma7])), (na6, aI E 10 gn8), (ma7, aI E 10 (fun _ => 0)), (w0, .inr (5, [.int nu, .int role, .int 0, .long 0, .ref q1, .int 0, .ref q2, .ref q9, .ref q15, .ref q22, .int 0, .int 0, .int 0])), (q1, aB E 16 (fun _ => 0)), (q22, aI E 6 (fun _ => 0))] := hD
  refine lv_aload_n hx hb dX4_init_83 rfl (lv_at hl 0 rfl) ?_
  refine lv_iload_n hx hb dX4_init_84 rfl (lv_at hl 3 rfl) ?_
  refine va_putF (D := E.1) (ci := 5) (v := .int ver) (ty := tyX4 2) (C := RX4) (T := TX4) (N := 13) hx hb hts hiX4 tyX4 tyX4_ok nmX4 hown hev.1 hP hD hS 10 rfl rfl 2 (by decide) hf59 (fun _ h9 => h9) rfl hin rfl (tyX4_ok 2 (by decide)) rfl rfl (Nat.le_of_ble_eq_true rfl) dX4_init_85 (fun H locs hP hD hS => ?_)
  have hP : va_P E.1 vwCl [(q15, .inr (2, [.ref pa19, .ref ta20, .ref ea21, .int 0])), (pa19, aI E 6 (fun _ => 0)), (ta20, aI E 6 (fun _ => 0)), (ea21, aZ E 6 (fun _ => 0)), (q9, .inr (7, [.ref ra13, .ref va14, .int 0])), (ra13, aI E 7 (fun _ => 0)), (va14, aI E 7 (fun _ => 0)), (q2, .inr (4, [.ref na6, .ref ma7])), (na6, aI E 10 gn8), (ma7, aI E 10 (fun _ => 0)), (w0, .inr (5, [.int nu, .int role, .int ver, .long 0, .ref q1, .int 0, .ref q2, .ref q9, .ref q15, .ref q22, .int 0, .int 0, .int 0])), (q1, aB E 16 (fun _ => 0)), (q22, aI E 6 (fun _ => 0))] H := hP
  have hD : va_D A [(q15, .inr (2, [.ref pa19, .ref ta20, .ref ea21, .int 0])), (pa19, aI E 6 (fun _ => 0)), (ta20, aI E 6 (fun _ => 0)), (ea21, aZ E 6 (fun _ => 0)), (q9, .inr (7, [.ref ra13, .ref va14, .int 0])), (ra13, aI E 7 (fun _ => 0)), (va14, aI E 7 (fun _ => 0)), (q2, .inr (4, [.ref na6, .ref ma7])), (na6, aI E 10 gn8), (ma7, aI E 10 (fun _ => 0)), (w0, .inr (5, [.int nu, .int role, .int ver, .long 0, .ref q1, .int 0, .ref q2, .ref q9, .ref q15, .ref q22, .int 0, .int 0, .int 0])), (q1, aB E 16 (fun _ => 0)), (q22, aI E 6 (fun _ => 0))] := hD
  refine lv_aload_n hx hb dX4_init_88 rfl (lv_at hl 0 rfl) ?_
  refine lv_lload hx hb dX4_init_89 (lv_at hl 4 rfl) ?_
  refine va_putF (D := E.1) (ci := 5) (v := .long unt) (ty := tyX4 3) (C := RX4) (T := TX4) (N := 13) hx hb hts hiX4 tyX4 tyX4_ok nmX4 hown hev.1 hP hD hS 10 rfl rfl 3 (by decide) hf62 (fun _ h9 => h9) rfl hin rfl (tyX4_ok 3 (by decide)) rfl rfl (Nat.le_of_ble_eq_true rfl) dX4_init_91 (fun H locs hP hD hS => ?_)
  have hP : va_P E.1 vwCl [(q15, .inr (2, [.ref pa19, .ref ta20, .ref ea21, .int 0])), (pa19, aI E 6 (fun _ => 0)), (ta20, aI E 6 (fun _ => 0)), (ea21, aZ E 6 (fun _ => 0)), (q9, .inr (7, [.ref ra13, .ref va14, .int 0])), (ra13, aI E 7 (fun _ => 0)), (va14, aI E 7 (fun _ => 0)), (q2, .inr (4, [.ref na6, .ref ma7])), (na6, aI E 10 gn8), (ma7, aI E 10 (fun _ => 0)), (w0, .inr (5, [.int nu, .int role, .int ver, .long unt, .ref q1, .int 0, .ref q2, .ref q9, .ref q15, .ref q22, .int 0, .int 0, .int 0])), (q1, aB E 16 (fun _ => 0)), (q22, aI E 6 (fun _ => 0))] H := hP
  have hD : va_D A [(q15, .inr (2, [.ref pa19, .ref ta20, .ref ea21, .int 0])), (pa19, aI E 6 (fun _ => 0)), (ta20, aI E 6 (fun _ => 0)), (ea21, aZ E 6 (fun _ => 0)), (q9, .inr (7, [.ref ra13, .ref va14, .int 0])), (ra13, aI E 7 (fun _ => 0)), (va14, aI E 7 (fun _ => 0)), (q2, .inr (4, [.ref na6, .ref ma7])), (na6, aI E 10 gn8), (ma7, aI E 10 (fun _ => 0)), (w0, .inr (5, [.int nu, .int role, .int ver, .long unt, .ref q1, .int 0, .ref q2, .ref q9, .ref q15, .ref q22, .int 0, .int 0, .int 0])), (q1, aB E 16 (fun _ => 0)), (q22, aI E 6 (fun _ => 0))] := hD
  refine xrv hx hb hr hlocks (hP.sub (ws' := [(w0, .inr (5, [.int nu, .int role, .int ver, .long unt, .ref q1, .int 0, .ref q2, .ref q9, .ref q15, .ref q22, .int 0, .int 0, .int 0])), (q1, aB E 16 (fun _ => 0)), (q2, .inr (4, [.ref na6, .ref ma7])), (na6, aI E 10 gn8), (ma7, aI E 10 (fun _ => 0)), (q9, .inr (7, [.ref ra13, .ref va14, .int 0])), (ra13, aI E 7 (fun _ => 0)), (va14, aI E 7 (fun _ => 0)), (q15, .inr (2, [.ref pa19, .ref ta20, .ref ea21, .int 0])), (pa19, aI E 6 (fun _ => 0)), (ta20, aI E 6 (fun _ => 0)), (ea21, aZ E 6 (fun _ => 0)), (q22, aI E 6 (fun _ => 0))]) [10, 11, 7, 8, 9, 4, 5, 6, 0, 1, 2, 3, 12] rfl) (hD.sub (ws' := [(w0, .inr (5, [.int nu, .int role, .int ver, .long unt, .ref q1, .int 0, .ref q2, .ref q9, .ref q15, .ref q22, .int 0, .int 0, .int 0])), (q1, aB E 16 (fun _ => 0)), (q2, .inr (4, [.ref na6, .ref ma7])), (na6, aI E 10 gn8), (ma7, aI E 10 (fun _ => 0)), (q9, .inr (7, [.ref ra13, .ref va14, .int 0])), (ra13, aI E 7 (fun _ => 0)), (va14, aI E 7 (fun _ => 0)), (q15, .inr (2, [.ref pa19, .ref ta20, .ref ea21, .int 0])), (pa19, aI E 6 (fun _ => 0)), (ta20, aI E 6 (fun _ => 0)), (ea21, aZ E 6 (fun _ => 0)), (q22, aI E 6 (fun _ => 0))]) [10, 11, 7, 8, 9, 4, 5, 6, 0, 1, 2, 3, 12] (by decide) rfl) hS ⟨q1, q2, q9, q15, q22, na6, ma7, ra13, va14, pa19, ta20, ea21, gn8, rfl, ?_⟩ dX4_init_94
  exact h5

abbrev pX4_writeTo (E : xE) (h : Nat) (ms : Nat) (sc : Nat) (sa : Nat) (n : Nat) (f : Nat → Int32) (w0 : Nat) (nu : Int32) (role : Int32) (ver : Int32) (unt : Int64) (oa : Nat) (oc : Nat) (qo : Nat) (tq : Nat) (dq : Nat) (ha : Nat) (pn : Nat) (sg : Int32) (rk : Int32) (fo : Nat → Int32) (na : Nat) (ma : Nat) (fn : Nat → Int32) (fm : Nat → Int32) (ra : Nat) (va : Nat) (tn : Nat) (fr : Nat → Int32) (fv : Nat → Int32) (pa : Nat) (ta : Nat) (ea : Nat) (dn : Nat) (fp : Nat → Int32) (ft : Nat → Int32) (fe : Nat → Int32) (fh : Nat → Int32) (w : va_W) : Prop := ∃ (g : Nat → Int32), w = [(h, .inr (6, [.ref ms, .ref sc, .ref sa, .int (nI (n + (rowB role ver unt oc fo fn fm tn fr fv dn fp ft fe pn fh).length))])), (ms, aB E 128 g)] ∧ (g = ap f n (rowB role ver unt oc fo fn fm tn fr fv dn fp ft fe pn fh))
set_option maxHeartbeats 4000000 in
set_option maxRecDepth 100000 in
theorem kX4_writeTo (l : Launch) (E : xE) (h : Nat) (ms : Nat) (sc : Nat) (sa : Nat) (n : Nat) (f : Nat → Int32) (w0 : Nat) (nu : Int32) (role : Int32) (ver : Int32) (unt : Int64) (oa : Nat) (oc : Nat) (qo : Nat) (tq : Nat) (dq : Nat) (ha : Nat) (pn : Nat) (sg : Int32) (rk : Int32) (fo : Nat → Int32) (na : Nat) (ma : Nat) (fn : Nat → Int32) (fm : Nat → Int32) (ra : Nat) (va : Nat) (tn : Nat) (fr : Nat → Int32) (fv : Nat → Int32) (pa : Nat) (ta : Nat) (ea : Nat) (dn : Nat) (fp : Nat → Int32) (ft : Nat → Int32) (fe : Nat → Int32) (fh : Nat → Int32) (hn : n ≤ 8) (hoc : oc ≤ 16) (htn : tn ≤ 7) (hdn : dn ≤ 6) (hpn : pn ≤ 6) : KT l yX4_writeTo wsX4_writeTo 3 65 0 0 E [(h, .inr (6, [.ref ms, .ref sc, .ref sa, .int (nI n)])), (ms, aB E 128 f)] [(w0, .inr (5, [.int nu, .int role, .int ver, .long unt, .ref oa, .int (nI oc), .ref qo, .ref tq, .ref dq, .ref ha, .int (nI pn), .int sg, .int rk])), (oa, aB E 16 fo), (qo, .inr (4, [.ref na, .ref ma])), (na, aI E 10 fn), (ma, aI E 10 fm), (tq, .inr (7, [.ref ra, .ref va, .int (nI tn)])), (ra, aI E 7 fr), (va, aI E 7 fv), (dq, .inr (2, [.ref pa, .ref ta, .ref ea, .int (nI dn)])), (pa, aI E 6 fp), (ta, aI E 6 ft), (ea, aZ E 6 fe), (ha, aI E 6 fh)] [.ref w0, .ref h] (QV E (pX4_writeTo E h ms sc sa n f w0 nu role ver unt oa oc qo tq dq ha pn sg rk fo na ma fn fm ra va tn fr fv pa ta ea dn fp ft fe fh)) := by
  refine KT.start (cc := cX4_writeTo) (maxL := 3) (ret := none) (by decide) rfl (Nat.le_of_ble_eq_true rfl) ?_
  intro p e s m below meth c A H hx hb hr hlocks hml hts hown hin hP hR0 hD hap hev hz hA hS ls hl
  have hl : lv_has ls 3 [(0, .ref w0), (1, .ref h)] := hl
  have hiX4 : ∀ w ∈ wsX40, w ∈ wsX4_writeTo := by decide +kernel
  have hf15 := hts (.fieldLink RX4 15 "SignQuorum$Row" "octetCount" "I") (by decide +kernel)
  have hf22 := hts (.fieldLink RX4 22 "SignQuorum$Row" "roster" "LSignQuorum$Roster;") (by decide +kernel)
  have hf29 := hts (.fieldLink RX4 29 "SignQuorum$Row" "told" "LSignQuorum$Told;") (by decide +kernel)
  have hf36 := hts (.fieldLink RX4 36 "SignQuorum$Row" "delegations" "LSignQuorum$Delegations;") (by decide +kernel)
  have hf56 := hts (.fieldLink RX4 56 "SignQuorum$Row" "role" "I") (by decide +kernel)
  have hf59 := hts (.fieldLink RX4 59 "SignQuorum$Row" "version" "I") (by decide +kernel)
  have hf62 := hts (.fieldLink RX4 62 "SignQuorum$Row" "until" "J") (by decide +kernel)
  have hf9 := hts (.fieldLink RX4 9 "SignQuorum$Row" "octets" "[B") (by decide +kernel)
  refine lv_aload_n hx hb dX4_writeTo_0 rfl (lv_at hl 1 rfl) ?_
  refine lv_aload_n hx hb dX4_writeTo_1 rfl (lv_at hl 0 rfl) ?_
  refine va_get (D := E.1) (ci := 5) (v := .int role) (C := RX4) (T := TX4) (N := 13) hx hb hts hiX4 hown hev.1 (xro hR0 hap hS) 0 rfl rfl 1 (by decide) hf56 (fun _ h9 => h9) rfl dX4_writeTo_2 ?_
  have hP := hP.sub (ws' := [(h, .inr (6, [.ref ms, .ref sc, .ref sa, .int (nI n)])), (ms, aB E 128 f)] ++ []) [0, 1] rfl
  have hD := hD.sub (ws' := [(h, .inr (6, [.ref ms, .ref sc, .ref sa, .int (nI n)])), (ms, aB E 128 f)] ++ []) [0, 1] (by decide) rfl
  refine xcv (va_runV (As := [.int role]) (rest := []) ⟨hx, hb, hml, hown, hts⟩ (kX5_putByte l E h ms sc sa n f role (by first | assumption | omega) H.size) (cwV 1 hts gX4_writeTo_X5_putByte rfl rfl rfl (by decide +kernel) ⟨Nat.le_of_ble_eq_true rfl, Nat.le_of_ble_eq_true rfl⟩) ⟨CP.blind, (va_recv hev.1 hP.left (ci := 6) (q0 := 0) rfl rfl), (xpre hev hz hA hP hD hS hR0 hap [] rfl)⟩ rfl rfl hl.1 rfl (lv_room (Nat.le_of_ble_eq_true rfl)) dX4_writeTo_5 ⟨Nat.le_of_ble_eq_true rfl, Nat.le_of_ble_eq_true rfl⟩) hP hD hS hA (fun w2 H locs h3 hP hD hS => ?_)
  obtain ⟨g4, rfl, h3⟩ := h3
  try dsimp only at h3
  have hP : va_P E.1 vwCl [(h, .inr (6, [.ref ms, .ref sc, .ref sa, .int (nI (n + 1))])), (ms, aB E 128 g4)] H := hP
  have hD : va_D A [(h, .inr (6, [.ref ms, .ref sc, .ref sa, .int (nI (n + 1))])), (ms, aB E 128 g4)] := hD
  refine lv_aload_n hx hb dX4_writeTo_8 rfl (lv_at hl 1 rfl) ?_
  refine lv_aload_n hx hb dX4_writeTo_9 rfl (lv_at hl 0 rfl) ?_
  refine va_get (D := E.1) (ci := 5) (v := .int ver) (C := RX4) (T := TX4) (N := 13) hx hb hts hiX4 hown hev.1 (xro hR0 hap hS) 0 rfl rfl 2 (by decide) hf59 (fun _ h9 => h9) rfl dX4_writeTo_10 ?_
  have hP := hP.sub (ws' := [(h, .inr (6, [.ref ms, .ref sc, .ref sa, .int (nI (n + 1))])), (ms, aB E 128 g4)] ++ []) [0, 1] rfl
  have hD := hD.sub (ws' := [(h, .inr (6, [.ref ms, .ref sc, .ref sa, .int (nI (n + 1))])), (ms, aB E 128 g4)] ++ []) [0, 1] (by decide) rfl
  refine xcv (va_runV (As := [.int ver]) (rest := []) ⟨hx, hb, hml, hown, hts⟩ (kX5_putInt l E h ms sc sa (n + 1) g4 ver (by first | assumption | omega) H.size) (cwV 1 hts gX4_writeTo_X5_putInt rfl rfl rfl (by decide +kernel) ⟨Nat.le_of_ble_eq_true rfl, Nat.le_of_ble_eq_true rfl⟩) ⟨CP.blind, (va_recv hev.1 hP.left (ci := 6) (q0 := 0) rfl rfl), (xpre hev hz hA hP hD hS hR0 hap [] rfl)⟩ rfl rfl hl.1 rfl (lv_room (Nat.le_of_ble_eq_true rfl)) dX4_writeTo_13 ⟨Nat.le_of_ble_eq_true rfl, Nat.le_of_ble_eq_true rfl⟩) hP hD hS hA (fun w6 H locs h7 hP hD hS => ?_)
  obtain ⟨g8, rfl, h7⟩ := h7
  try dsimp only at h7
  try rw [show ((n + 1) + 4 : Nat) = n + 5 by omega] at hP hD
  have hP : va_P E.1 vwCl [(h, .inr (6, [.ref ms, .ref sc, .ref sa, .int (nI (n + 5))])), (ms, aB E 128 g8)] H := hP
  have hD : va_D A [(h, .inr (6, [.ref ms, .ref sc, .ref sa, .int (nI (n + 5))])), (ms, aB E 128 g8)] := hD
  refine lv_aload_n hx hb dX4_writeTo_16 rfl (lv_at hl 1 rfl) ?_
  refine lv_aload_n hx hb dX4_writeTo_17 rfl (lv_at hl 0 rfl) ?_
  refine va_get (D := E.1) (ci := 5) (v := .long unt) (C := RX4) (T := TX4) (N := 13) hx hb hts hiX4 hown hev.1 (xro hR0 hap hS) 0 rfl rfl 3 (by decide) hf62 (fun _ h9 => h9) rfl dX4_writeTo_18 ?_
  have hP := hP.sub (ws' := [(h, .inr (6, [.ref ms, .ref sc, .ref sa, .int (nI (n + 5))])), (ms, aB E 128 g8)] ++ []) [0, 1] rfl
  have hD := hD.sub (ws' := [(h, .inr (6, [.ref ms, .ref sc, .ref sa, .int (nI (n + 5))])), (ms, aB E 128 g8)] ++ []) [0, 1] (by decide) rfl
  refine xcv (va_runV (As := [.long unt]) (rest := []) ⟨hx, hb, hml, hown, hts⟩ (kX5_putLong l E h ms sc sa (n + 5) g8 unt (by first | assumption | omega) H.size) (cwV 1 hts gX4_writeTo_X5_putLong rfl rfl rfl (by decide +kernel) ⟨Nat.le_of_ble_eq_true rfl, Nat.le_of_ble_eq_true rfl⟩) ⟨CP.blind, (va_recv hev.1 hP.left (ci := 6) (q0 := 0) rfl rfl), (xpre hev hz hA hP hD hS hR0 hap [] rfl)⟩ rfl rfl hl.1 rfl (lv_room (Nat.le_of_ble_eq_true rfl)) dX4_writeTo_21 ⟨Nat.le_of_ble_eq_true rfl, Nat.le_of_ble_eq_true rfl⟩) hP hD hS hA (fun w10 H locs h11 hP hD hS => ?_)
  obtain ⟨g12, rfl, h11⟩ := h11
  try dsimp only at h11
  try rw [show ((n + 5) + 8 : Nat) = n + 13 by omega] at hP hD
  have hP : va_P E.1 vwCl [(h, .inr (6, [.ref ms, .ref sc, .ref sa, .int (nI (n + 13))])), (ms, aB E 128 g12)] H := hP
  have hD : va_D A [(h, .inr (6, [.ref ms, .ref sc, .ref sa, .int (nI (n + 13))])), (ms, aB E 128 g12)] := hD
  refine lv_aload_n hx hb dX4_writeTo_24 rfl (lv_at hl 1 rfl) ?_
  refine lv_aload_n hx hb dX4_writeTo_25 rfl (lv_at hl 0 rfl) ?_
  refine va_get (D := E.1) (ci := 5) (v := .int (nI oc)) (C := RX4) (T := TX4) (N := 13) hx hb hts hiX4 hown hev.1 (xro hR0 hap hS) 0 rfl rfl 5 (by decide) hf15 (fun _ h9 => h9) rfl dX4_writeTo_26 ?_
  have hP := hP.sub (ws' := [(h, .inr (6, [.ref ms, .ref sc, .ref sa, .int (nI (n + 13))])), (ms, aB E 128 g12)] ++ []) [0, 1] rfl
  have hD := hD.sub (ws' := [(h, .inr (6, [.ref ms, .ref sc, .ref sa, .int (nI (n + 13))])), (ms, aB E 128 g12)] ++ []) [0, 1] (by decide) rfl
  refine xcv (va_runV (As := [.int (nI oc)]) (rest := []) ⟨hx, hb, hml, hown, hts⟩ (kX5_putByte l E h ms sc sa (n + 13) g12 (nI oc) (by first | assumption | omega) H.size) (cwV 1 hts gX4_writeTo_X5_putByte rfl rfl rfl (by decide +kernel) ⟨Nat.le_of_ble_eq_true rfl, Nat.le_of_ble_eq_true rfl⟩) ⟨CP.blind, (va_recv hev.1 hP.left (ci := 6) (q0 := 0) rfl rfl), (xpre hev hz hA hP hD hS hR0 hap [] rfl)⟩ rfl rfl hl.1 rfl (lv_room (Nat.le_of_ble_eq_true rfl)) dX4_writeTo_29 ⟨Nat.le_of_ble_eq_true rfl, Nat.le_of_ble_eq_true rfl⟩) hP hD hS hA (fun w14 H locs h15 hP hD hS => ?_)
  obtain ⟨g16, rfl, h15⟩ := h15
  try dsimp only at h15
  try rw [show ((n + 13) + 1 : Nat) = n + 14 by omega] at hP hD
  have hP : va_P E.1 vwCl [(h, .inr (6, [.ref ms, .ref sc, .ref sa, .int (nI (n + 14))])), (ms, aB E 128 g16)] H := hP
  have hD : va_D A [(h, .inr (6, [.ref ms, .ref sc, .ref sa, .int (nI (n + 14))])), (ms, aB E 128 g16)] := hD
  refine lv_iconst (v := 0) hx hb dX4_writeTo_32 (by decide) ?_
  refine lv_istore_n (lv' := [(2, .int 0), (0, .ref w0), (1, .ref h)]) hx hb dX4_writeTo_33 rfl hl (by decide) rfl (fun ls hl => ?_)
  have loop34 : ∀ (fz : Nat) (i : Nat) (g : Nat → Int32), (i ≤ oc) → (g = ap f n (((([by8 role] ++ bI ver) ++ bL unt) ++ [by8 (nI oc)]) ++ octB fo i)) → (oc - i < fz) → ∀ (H : Heap) (locs : List Loc), va_P E.1 vwCl [(h, .inr (6, [.ref ms, .ref sc, .ref sa, .int (nI (n + 14 + i))])), (ms, aB E 128 g)] H → va_D A [(h, .inr (6, [.ref ms, .ref sc, .ref sa, .int (nI (n + 14 + i))])), (ms, aB E 128 g)] → va_S A s.heap H locs → ∀ ls : Array Slot, lv_has ls 3 [(2, .int (nI i)), (0, .ref w0), (1, .ref h)] → W p l e ({ frames := 3, cells := 0, slots := 0, locals := 65 } : Room) s m ([.ref w0, .ref h] : List Value).toArray below meth c H locs 0 0 (MQ below (QV E (pX4_writeTo E h ms sc sa n f w0 nu role ver unt oa oc qo tq dq ha pn sg rk fo na ma fn fm ra va tn fr fv pa ta ea dn fp ft fe fh) A) ([.ref w0, .ref h] : List Value).toArray s 0 0 A) (F0 m 34 ls []) := by
    intro fz
    induction fz with
    | zero =>
      intro i g hi hg hfuel
      exact absurd hfuel (by omega)
    | succ fz ih =>
      intro i g hi hg hfuel H locs hP hD hS ls hl
      refine lv_iload_n hx hb dX4_writeTo_34 rfl (lv_at hl 0 rfl) ?_
      refine lv_aload_n hx hb dX4_writeTo_35 rfl (lv_at hl 1 rfl) ?_
      refine va_get (D := E.1) (ci := 5) (v := .int (nI oc)) (C := RX4) (T := TX4) (N := 13) hx hb hts hiX4 hown hev.1 (xro hR0 hap hS) 0 rfl rfl 5 (by decide) hf15 (fun _ h9 => h9) rfl dX4_writeTo_36 ?_
      refine lv_icmp_ge (tgt := 58) hx hb dX4_writeTo_39 (by decide) (fun c17 => ?_) (fun c17 => ?_)
      · skip
        have kc17 : oc ≤ i := (nI_leI (a := oc) (b := i) (by omega) (by omega)).mp c17
        have hin9 : i = oc := by omega
        rw [hin9] at hP hD hg
        have hP : va_P E.1 vwCl [(h, .inr (6, [.ref ms, .ref sc, .ref sa, .int (nI (n + 14 + oc))])), (ms, aB E 128 g)] H := hP
        have hD : va_D A [(h, .inr (6, [.ref ms, .ref sc, .ref sa, .int (nI (n + 14 + oc))])), (ms, aB E 128 g)] := hD
        have hg : g = ap f n (rowH role ver unt oc fo) := hg
        refine lv_aload_n hx hb dX4_writeTo_58 rfl (lv_at hl 1 rfl) ?_
        refine va_get (D := E.1) (ci := 5) (v := .int role) (C := RX4) (T := TX4) (N := 13) hx hb hts hiX4 hown hev.1 (xro hR0 hap hS) 0 rfl rfl 1 (by decide) hf56 (fun _ h9 => h9) rfl dX4_writeTo_59 ?_
        refine lv_if_ne (tgt := 76) hx hb dX4_writeTo_62 (by decide) (fun c18 => ?_) (fun c18 => ?_)
        · skip
          refine lv_aload_n hx hb dX4_writeTo_76 rfl (lv_at hl 1 rfl) ?_
          have hP := hP.sub (ws' := [] ++ [(h, .inr (6, [.ref ms, .ref sc, .ref sa, .int (nI (n + 14 + oc))])), (ms, aB E 128 g)]) [0, 1] rfl
          have hD := hD.sub (ws' := [] ++ [(h, .inr (6, [.ref ms, .ref sc, .ref sa, .int (nI (n + 14 + oc))])), (ms, aB E 128 g)]) [0, 1] (by decide) rfl
          refine xci (va_runV (As := []) (rest := []) ⟨hx, hb, hml, hown, hts⟩ (kX4_tellsOfPaths l E w0 nu role ver unt oa oc qo tq dq ha pn sg rk  H.size) (cwV 0 hts gX4_writeTo_X4_tellsOfPaths rfl rfl rfl (by decide +kernel) ⟨Nat.le_of_ble_eq_true rfl, Nat.le_of_ble_eq_true rfl⟩) ⟨CP.blind, (va_recv hev.1 (xro hR0 hap hS) (ci := 5) (q0 := 0) rfl rfl), (xpre hev hz hA hP hD hS hR0 hap [2] rfl)⟩ rfl rfl hl.1 rfl (lv_room (Nat.le_of_ble_eq_true rfl)) dX4_writeTo_77 ⟨Nat.le_of_ble_eq_true rfl, Nat.le_of_ble_eq_true rfl⟩) hP hD hS hA (fun r19 w20 H locs h21 hP hD hS => ?_)
          obtain ⟨rfl, rfl, h21⟩ := h21
          try dsimp only at h21
          try rw [show (n + 14 + oc : Nat) = n + oc + 14 by omega] at hP hD
          have hP : va_P E.1 vwCl [(h, .inr (6, [.ref ms, .ref sc, .ref sa, .int (nI (n + oc + 14))])), (ms, aB E 128 g)] H := hP
          have hD : va_D A [(h, .inr (6, [.ref ms, .ref sc, .ref sa, .int (nI (n + oc + 14))])), (ms, aB E 128 g)] := hD
          refine lv_if_eq (tgt := 99) hx hb dX4_writeTo_80 (by decide) (fun c22 => ?_) (fun c22 => ?_)
          · skip
            have kc22 : ¬ (¬ role < 3) := b1_0.mp c22
            refine lv_aload_n hx hb dX4_writeTo_99 rfl (lv_at hl 1 rfl) ?_
            refine va_get (D := E.1) (ci := 5) (v := .ref tq) (C := RX4) (T := TX4) (N := 13) hx hb hts hiX4 hown hev.1 (xro hR0 hap hS) 0 rfl rfl 7 (by decide) hf29 (fun _ h9 => h9) rfl dX4_writeTo_100 ?_
            refine lv_aload_n hx hb dX4_writeTo_103 rfl (lv_at hl 2 rfl) ?_
            have hP := hP.sub (ws' := [(h, .inr (6, [.ref ms, .ref sc, .ref sa, .int (nI (n + oc + 14))])), (ms, aB E 128 g)] ++ []) [0, 1] rfl
            have hD := hD.sub (ws' := [(h, .inr (6, [.ref ms, .ref sc, .ref sa, .int (nI (n + oc + 14))])), (ms, aB E 128 g)] ++ []) [0, 1] (by decide) rfl
            refine xcv (va_runV (As := [.ref h]) (rest := []) ⟨hx, hb, hml, hown, hts⟩ (kX6_writeTo l E h ms sc sa (n + oc + 14) g tq ra va tn fr fv (by first | assumption | omega) (by first | assumption | omega) H.size) (cwV 1 hts gX4_writeTo_X6_writeTo rfl rfl rfl (by decide +kernel) ⟨Nat.le_of_ble_eq_true rfl, Nat.le_of_ble_eq_true rfl⟩) ⟨CP.blind, (va_recv hev.1 (xro hR0 hap hS) (ci := 7) (q0 := 5) rfl rfl), (xpre hev hz hA hP hD hS hR0 hap [5, 6, 7] rfl)⟩ rfl rfl hl.1 rfl (lv_room (Nat.le_of_ble_eq_true rfl)) dX4_writeTo_104 ⟨Nat.le_of_ble_eq_true rfl, Nat.le_of_ble_eq_true rfl⟩) hP hD hS hA (fun w24 H locs h25 hP hD hS => ?_)
            obtain ⟨g26, rfl, h25⟩ := h25
            try dsimp only at h25
            have hP : va_P E.1 vwCl [(h, .inr (6, [.ref ms, .ref sc, .ref sa, .int (nI ((n + oc + 14) + 1 + 5 * tn))])), (ms, aB E 128 g26)] H := hP
            have hD : va_D A [(h, .inr (6, [.ref ms, .ref sc, .ref sa, .int (nI ((n + oc + 14) + 1 + 5 * tn))])), (ms, aB E 128 g26)] := hD
            rw [show ((n + oc + 14) + 1 + 5 * tn : Nat) = n + (rowB role ver unt oc fo fn fm tn fr fv dn fp ft fe pn fh).length from by rw [rowB, if_neg c18, if_pos (Classical.not_not.mp kc22)]; simp only [List.length_append, List.length_cons, List.length_nil, rosB_len, delB_len, pthB_len, octB_len, rowH_len, tldB_len, dlgB_len, lstB_len, bL_len, bI]; try omega] at hP hD
            have hP : va_P E.1 vwCl [(h, .inr (6, [.ref ms, .ref sc, .ref sa, .int (nI (n + (rowB role ver unt oc fo fn fm tn fr fv dn fp ft fe pn fh).length))])), (ms, aB E 128 g26)] H := hP
            have hD : va_D A [(h, .inr (6, [.ref ms, .ref sc, .ref sa, .int (nI (n + (rowB role ver unt oc fo fn fm tn fr fv dn fp ft fe pn fh).length))])), (ms, aB E 128 g26)] := hD
            refine xrv hx hb hr hlocks hP hD hS ⟨g26, rfl, ?_⟩ dX4_writeTo_107
            rw [rowB, if_neg c18, if_pos (Classical.not_not.mp kc22)]
            exact (ap_step (hg) h25 (by simp only [List.length_append, List.length_cons, List.length_nil, rosB_len, delB_len, pthB_len, octB_len, rowH_len, tldB_len, dlgB_len, lstB_len, bL_len, bI]; try omega)).trans (by try simp only [List.append_assoc])
          · skip
            have kc22 : (¬ role < 3) := b1_n.mp c22
            refine lv_aload_n hx hb dX4_writeTo_83 rfl (lv_at hl 1 rfl) ?_
            refine va_get (D := E.1) (ci := 5) (v := .ref dq) (C := RX4) (T := TX4) (N := 13) hx hb hts hiX4 hown hev.1 (xro hR0 hap hS) 0 rfl rfl 8 (by decide) hf36 (fun _ h9 => h9) rfl dX4_writeTo_84 ?_
            refine lv_aload_n hx hb dX4_writeTo_87 rfl (lv_at hl 2 rfl) ?_
            have hP := hP.sub (ws' := [(h, .inr (6, [.ref ms, .ref sc, .ref sa, .int (nI (n + oc + 14))])), (ms, aB E 128 g)] ++ []) [0, 1] rfl
            have hD := hD.sub (ws' := [(h, .inr (6, [.ref ms, .ref sc, .ref sa, .int (nI (n + oc + 14))])), (ms, aB E 128 g)] ++ []) [0, 1] (by decide) rfl
            refine xcv (va_runV (As := [.ref h]) (rest := []) ⟨hx, hb, hml, hown, hts⟩ (kX1_writeTo l E h ms sc sa (n + oc + 14) g dq pa ta ea dn fp ft fe (by first | assumption | omega) (by first | assumption | omega) H.size) (cwV 1 hts gX4_writeTo_X1_writeTo rfl rfl rfl (by decide +kernel) ⟨Nat.le_of_ble_eq_true rfl, Nat.le_of_ble_eq_true rfl⟩) ⟨CP.blind, (va_recv hev.1 (xro hR0 hap hS) (ci := 2) (q0 := 8) rfl rfl), (xpre hev hz hA hP hD hS hR0 hap [8, 9, 10, 11] rfl)⟩ rfl rfl hl.1 rfl (lv_room (Nat.le_of_ble_eq_true rfl)) dX4_writeTo_88 ⟨Nat.le_of_ble_eq_true rfl, Nat.le_of_ble_eq_true rfl⟩) hP hD hS hA (fun w28 H locs h29 hP hD hS => ?_)
            obtain ⟨g30, rfl, h29⟩ := h29
            try dsimp only at h29
            have hP : va_P E.1 vwCl [(h, .inr (6, [.ref ms, .ref sc, .ref sa, .int (nI ((n + oc + 14) + 1 + 6 * dn))])), (ms, aB E 128 g30)] H := hP
            have hD : va_D A [(h, .inr (6, [.ref ms, .ref sc, .ref sa, .int (nI ((n + oc + 14) + 1 + 6 * dn))])), (ms, aB E 128 g30)] := hD
            refine lv_aload_n hx hb dX4_writeTo_91 rfl (lv_at hl 1 rfl) ?_
            refine lv_aload_n hx hb dX4_writeTo_92 rfl (lv_at hl 2 rfl) ?_
            have hP := hP.sub (ws' := [(h, .inr (6, [.ref ms, .ref sc, .ref sa, .int (nI ((n + oc + 14) + 1 + 6 * dn))])), (ms, aB E 128 g30)] ++ []) [0, 1] rfl
            have hD := hD.sub (ws' := [(h, .inr (6, [.ref ms, .ref sc, .ref sa, .int (nI ((n + oc + 14) + 1 + 6 * dn))])), (ms, aB E 128 g30)] ++ []) [0, 1] (by decide) rfl
            refine xcv (va_runV (As := [.ref h]) (rest := []) ⟨hx, hb, hml, hown, hts⟩ (kX4_writePathsTo l E h ms sc sa ((n + oc + 14) + 1 + 6 * dn) g30 w0 nu role ver unt oa oc qo tq dq ha pn sg rk fh (by first | assumption | omega) (by first | assumption | omega) H.size) (cwV 1 hts gX4_writeTo_X4_writePathsTo rfl rfl rfl (by decide +kernel) ⟨Nat.le_of_ble_eq_true rfl, Nat.le_of_ble_eq_true rfl⟩) ⟨CP.blind, (va_recv hev.1 (xro hR0 hap hS) (ci := 5) (q0 := 0) rfl rfl), (xpre hev hz hA hP hD hS hR0 hap [0, 12] rfl)⟩ rfl rfl hl.1 rfl (lv_room (Nat.le_of_ble_eq_true rfl)) dX4_writeTo_93 ⟨Nat.le_of_ble_eq_true rfl, Nat.le_of_ble_eq_true rfl⟩) hP hD hS hA (fun w32 H locs h33 hP hD hS => ?_)
            obtain ⟨g34, rfl, h33⟩ := h33
            try dsimp only at h33
            have hP : va_P E.1 vwCl [(h, .inr (6, [.ref ms, .ref sc, .ref sa, .int (nI (((n + oc + 14) + 1 + 6 * dn) + 1 + 4 * pn))])), (ms, aB E 128 g34)] H := hP
            have hD : va_D A [(h, .inr (6, [.ref ms, .ref sc, .ref sa, .int (nI (((n + oc + 14) + 1 + 6 * dn) + 1 + 4 * pn))])), (ms, aB E 128 g34)] := hD
            refine lv_goto (tgt := 107) hx hb dX4_writeTo_96 (by decide) ?_
            rw [show (((n + oc + 14) + 1 + 6 * dn) + 1 + 4 * pn : Nat) = n + (rowB role ver unt oc fo fn fm tn fr fv dn fp ft fe pn fh).length from by rw [rowB, if_neg c18, if_neg kc22]; simp only [List.length_append, List.length_cons, List.length_nil, rosB_len, delB_len, pthB_len, octB_len, rowH_len, tldB_len, dlgB_len, lstB_len, bL_len, bI]; try omega] at hP hD
            have hP : va_P E.1 vwCl [(h, .inr (6, [.ref ms, .ref sc, .ref sa, .int (nI (n + (rowB role ver unt oc fo fn fm tn fr fv dn fp ft fe pn fh).length))])), (ms, aB E 128 g34)] H := hP
            have hD : va_D A [(h, .inr (6, [.ref ms, .ref sc, .ref sa, .int (nI (n + (rowB role ver unt oc fo fn fm tn fr fv dn fp ft fe pn fh).length))])), (ms, aB E 128 g34)] := hD
            refine xrv hx hb hr hlocks hP hD hS ⟨g34, rfl, ?_⟩ dX4_writeTo_107
            rw [rowB, if_neg c18, if_neg kc22]
            exact (ap_step (ap_step (hg) h29 (by simp only [List.length_append, List.length_cons, List.length_nil, rosB_len, delB_len, pthB_len, octB_len, rowH_len, tldB_len, dlgB_len, lstB_len, bL_len, bI]; try omega)) h33 (by simp only [List.length_append, List.length_cons, List.length_nil, rosB_len, delB_len, pthB_len, octB_len, rowH_len, tldB_len, dlgB_len, lstB_len, bL_len, bI]; try omega)).trans (by try simp only [List.append_assoc])
        · skip
          refine lv_aload_n hx hb dX4_writeTo_65 rfl (lv_at hl 1 rfl) ?_
          refine va_get (D := E.1) (ci := 5) (v := .ref qo) (C := RX4) (T := TX4) (N := 13) hx hb hts hiX4 hown hev.1 (xro hR0 hap hS) 0 rfl rfl 6 (by decide) hf22 (fun _ h9 => h9) rfl dX4_writeTo_66 ?_
          refine lv_aload_n hx hb dX4_writeTo_69 rfl (lv_at hl 2 rfl) ?_
          have hP := hP.sub (ws' := [(h, .inr (6, [.ref ms, .ref sc, .ref sa, .int (nI (n + 14 + oc))])), (ms, aB E 128 g)] ++ []) [0, 1] rfl
          have hD := hD.sub (ws' := [(h, .inr (6, [.ref ms, .ref sc, .ref sa, .int (nI (n + 14 + oc))])), (ms, aB E 128 g)] ++ []) [0, 1] (by decide) rfl
          refine xcv (va_runV (As := [.ref h]) (rest := []) ⟨hx, hb, hml, hown, hts⟩ (kX3_writeTo l E h ms sc sa (n + 14 + oc) g qo na ma fn fm (by first | assumption | omega) H.size) (cwV 1 hts gX4_writeTo_X3_writeTo rfl rfl rfl (by decide +kernel) ⟨Nat.le_of_ble_eq_true rfl, Nat.le_of_ble_eq_true rfl⟩) ⟨CP.blind, (va_recv hev.1 (xro hR0 hap hS) (ci := 4) (q0 := 2) rfl rfl), (xpre hev hz hA hP hD hS hR0 hap [2, 3, 4] rfl)⟩ rfl rfl hl.1 rfl (lv_room (Nat.le_of_ble_eq_true rfl)) dX4_writeTo_70 ⟨Nat.le_of_ble_eq_true rfl, Nat.le_of_ble_eq_true rfl⟩) hP hD hS hA (fun w36 H locs h37 hP hD hS => ?_)
          obtain ⟨g38, rfl, h37⟩ := h37
          try dsimp only at h37
          try rw [show ((n + 14 + oc) + 50 : Nat) = n + oc + 64 by omega] at hP hD
          have hP : va_P E.1 vwCl [(h, .inr (6, [.ref ms, .ref sc, .ref sa, .int (nI (n + oc + 64))])), (ms, aB E 128 g38)] H := hP
          have hD : va_D A [(h, .inr (6, [.ref ms, .ref sc, .ref sa, .int (nI (n + oc + 64))])), (ms, aB E 128 g38)] := hD
          refine lv_goto (tgt := 107) hx hb dX4_writeTo_73 (by decide) ?_
          rw [show (n + oc + 64 : Nat) = n + (rowB role ver unt oc fo fn fm tn fr fv dn fp ft fe pn fh).length from by rw [rowB, if_pos c18]; simp only [List.length_append, List.length_cons, List.length_nil, rosB_len, delB_len, pthB_len, octB_len, rowH_len, tldB_len, dlgB_len, lstB_len, bL_len, bI]; try omega] at hP hD
          have hP : va_P E.1 vwCl [(h, .inr (6, [.ref ms, .ref sc, .ref sa, .int (nI (n + (rowB role ver unt oc fo fn fm tn fr fv dn fp ft fe pn fh).length))])), (ms, aB E 128 g38)] H := hP
          have hD : va_D A [(h, .inr (6, [.ref ms, .ref sc, .ref sa, .int (nI (n + (rowB role ver unt oc fo fn fm tn fr fv dn fp ft fe pn fh).length))])), (ms, aB E 128 g38)] := hD
          refine xrv hx hb hr hlocks hP hD hS ⟨g38, rfl, ?_⟩ dX4_writeTo_107
          rw [rowB, if_pos c18]
          exact (ap_step (hg) h37 (by simp only [List.length_append, List.length_cons, List.length_nil, rosB_len, delB_len, pthB_len, octB_len, rowH_len, tldB_len, dlgB_len, lstB_len, bL_len, bI]; try omega)).trans (by try simp only [List.append_assoc])
      · skip
        have kc17 : ¬ oc ≤ i := fun h9 => c17 ((nI_leI (a := oc) (b := i) (by omega) (by omega)).mpr h9)
        refine lv_aload_n hx hb dX4_writeTo_42 rfl (lv_at hl 2 rfl) ?_
        refine lv_aload_n hx hb dX4_writeTo_43 rfl (lv_at hl 1 rfl) ?_
        refine va_get (D := E.1) (ci := 5) (v := .ref oa) (C := RX4) (T := TX4) (N := 13) hx hb hts hiX4 hown hev.1 (xro hR0 hap hS) 0 rfl rfl 4 (by decide) hf9 (fun _ h9 => h9) rfl dX4_writeTo_44 ?_
        refine lv_iload_n hx hb dX4_writeTo_47 rfl (lv_at hl 0 rfl) ?_
        refine xbald (k := (i)) hx hb hev.1 (xro hR0 hap hS) 1 0 rfl rfl (by omega) (by decide) dX4_writeTo_48 ?_
        have hP := hP.sub (ws' := [(h, .inr (6, [.ref ms, .ref sc, .ref sa, .int (nI (n + 14 + i))])), (ms, aB E 128 g)] ++ []) [0, 1] rfl
        have hD := hD.sub (ws' := [(h, .inr (6, [.ref ms, .ref sc, .ref sa, .int (nI (n + 14 + i))])), (ms, aB E 128 g)] ++ []) [0, 1] (by decide) rfl
        refine xcv (va_runV (As := [.int (fo i)]) (rest := []) ⟨hx, hb, hml, hown, hts⟩ (kX5_putByte l E h ms sc sa (n + 14 + i) g (fo i) (by first | assumption | omega) H.size) (cwV 1 hts gX4_writeTo_X5_putByte rfl rfl rfl (by decide +kernel) ⟨Nat.le_of_ble_eq_true rfl, Nat.le_of_ble_eq_true rfl⟩) ⟨CP.blind, (va_recv hev.1 hP.left (ci := 6) (q0 := 0) rfl rfl), (xpre hev hz hA hP hD hS hR0 hap [] rfl)⟩ rfl rfl hl.1 rfl (lv_room (Nat.le_of_ble_eq_true rfl)) dX4_writeTo_49 ⟨Nat.le_of_ble_eq_true rfl, Nat.le_of_ble_eq_true rfl⟩) hP hD hS hA (fun w40 H locs h41 hP hD hS => ?_)
        obtain ⟨g42, rfl, h41⟩ := h41
        try dsimp only at h41
        try rw [show ((n + 14 + i) + 1 : Nat) = n + i + 15 by omega] at hP hD
        have hP : va_P E.1 vwCl [(h, .inr (6, [.ref ms, .ref sc, .ref sa, .int (nI (n + i + 15))])), (ms, aB E 128 g42)] H := hP
        have hD : va_D A [(h, .inr (6, [.ref ms, .ref sc, .ref sa, .int (nI (n + i + 15))])), (ms, aB E 128 g42)] := hD
        refine lv_iinc (v := nI (i + 1)) (lv' := [(2, .int (nI (i + 1))), (0, .ref w0), (1, .ref h)]) hx hb dX4_writeTo_52 hl (k := 0) rfl ((nI_add i 1).trans (congrArg nI (by omega))) (by decide) rfl (fun ls hl => ?_)
        refine lv_goto (tgt := 34) hx hb dX4_writeTo_55 (by decide) ?_
        rw [show (n + i + 15 : Nat) = n + 14 + (i + 1) from by omega] at hP hD
        have hP : va_P E.1 vwCl [(h, .inr (6, [.ref ms, .ref sc, .ref sa, .int (nI (n + 14 + (i + 1)))])), (ms, aB E 128 g42)] H := hP
        have hD : va_D A [(h, .inr (6, [.ref ms, .ref sc, .ref sa, .int (nI (n + 14 + (i + 1)))])), (ms, aB E 128 g42)] := hD
        exact ih  (i + 1) g42 (by omega) ((ap_step (hg) h41 (by simp only [List.length_append, List.length_cons, List.length_nil, rosB_len, delB_len, pthB_len, octB_len, rowH_len, tldB_len, dlgB_len, lstB_len, bL_len, bI]; try omega)).trans (by simp only [octB, List.append_assoc])) (by omega) _ _ hP hD hS ls (lv_sub hl [0, 1, 2] rfl)
  exact loop34 (oc + 1) 0 g16 (by omega) ((ap_step (ap_step (ap_step ((h3 : _ = ap f n [by8 role])) h7 (by simp only [List.length_append, List.length_cons, List.length_nil, rosB_len, delB_len, pthB_len, octB_len, rowH_len, tldB_len, dlgB_len, lstB_len, bL_len, bI]; try omega)) h11 (by simp only [List.length_append, List.length_cons, List.length_nil, rosB_len, delB_len, pthB_len, octB_len, rowH_len, tldB_len, dlgB_len, lstB_len, bL_len, bI]; try omega)) h15 (by simp only [List.length_append, List.length_cons, List.length_nil, rosB_len, delB_len, pthB_len, octB_len, rowH_len, tldB_len, dlgB_len, lstB_len, bL_len, bI]; try omega)).trans (by simp only [octB, List.append_nil])) (by omega) _ _ hP hD hS ls (lv_sub hl [0, 1, 2] rfl)
