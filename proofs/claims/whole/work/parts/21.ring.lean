abbrev pX7_isRole (E : xE) (a : Int32) (r : Int32) (w : va_W) : Prop := w = [] ∧ r = b1 (isN a 10) ∧ (True)
set_option maxHeartbeats 4000000 in
set_option maxRecDepth 100000 in
theorem kX7_isRole (l : Launch) (E : xE) (a : Int32)  : KT l yX7_isRole wsX7_isRole 0 0 0 0 E [] [] [.int a] (QI E (pX7_isRole E a)) := by
  refine KT.start (cc := cX7_isRole) (maxL := 1) (ret := (some .boolean)) (by decide) rfl (Nat.le_of_ble_eq_true rfl) ?_
  intro p e s m below meth c A H hx hb hr hlocks hml hts hown hin hP hR0 hD hap hev hz hA hS ls hl
  have hl : lv_has ls 1 [(0, .int a)] := hl
  refine lv_iload_n hx hb dX7_isRole_0 rfl (lv_at hl 0 rfl) ?_
  refine lv_if_lt (tgt := 14) hx hb dX7_isRole_1 (by decide) (fun c1 => ?_) (fun c1 => ?_)
  · skip
    refine lv_iconst (v := 0) hx hb dX7_isRole_14 (by decide) ?_
    refine xrz hx hb hr hlocks (by first | rfl | decide) hP hD hS ⟨rfl, ?_, ?_⟩ dX7_isRole_15
    · exact (b1_f (isN_no1 c1 (by decide))).symm
    · trivial
  · skip
    refine lv_iload_n hx hb dX7_isRole_4 rfl (lv_at hl 0 rfl) ?_
    refine lv_bipush (v := 10) hx hb dX7_isRole_5 (by decide) ?_
    refine lv_icmp_ge (tgt := 14) hx hb dX7_isRole_7 (by decide) (fun c2 => ?_) (fun c2 => ?_)
    · skip
      refine lv_iconst (v := 0) hx hb dX7_isRole_14 (by decide) ?_
      refine xrz hx hb hr hlocks (by first | rfl | decide) hP hD hS ⟨rfl, ?_, ?_⟩ dX7_isRole_15
      · exact (b1_f (isN_no2 (n := 10) c2 (by decide))).symm
      · trivial
    · skip
      refine lv_iconst (v := 1) hx hb dX7_isRole_10 (by decide) ?_
      refine lv_goto (tgt := 15) hx hb dX7_isRole_11 (by decide) ?_
      refine xrz hx hb hr hlocks (by first | rfl | decide) hP hD hS ⟨rfl, ?_, ?_⟩ dX7_isRole_15
      · exact (b1_t (in_t 10 c1 c2 (by decide))).symm
      · trivial

abbrev pX7_isVersion (E : xE) (a : Int32) (r : Int32) (w : va_W) : Prop := w = [] ∧ r = b1 (¬ a < 1 ∧ ¬ 1000000 < a) ∧ (True)
set_option maxHeartbeats 4000000 in
set_option maxRecDepth 100000 in
theorem kX7_isVersion (l : Launch) (E : xE) (a : Int32)  : KT l yX7_isVersion wsX7_isVersion 0 0 0 0 E [] [] [.int a] (QI E (pX7_isVersion E a)) := by
  refine KT.start (cc := cX7_isVersion) (maxL := 1) (ret := (some .boolean)) (by decide) rfl (Nat.le_of_ble_eq_true rfl) ?_
  intro p e s m below meth c A H hx hb hr hlocks hml hts hown hin hP hR0 hD hap hev hz hA hS ls hl
  have hl : lv_has ls 1 [(0, .int a)] := hl
  have hk232 := hts (.constant RX7 232 (1000000)) (by decide +kernel)
  refine lv_iload_n hx hb dX7_isVersion_0 rfl (lv_at hl 0 rfl) ?_
  refine lv_iconst (v := 1) hx hb dX7_isVersion_1 (by decide) ?_
  refine lv_icmp_lt (tgt := 15) hx hb dX7_isVersion_2 (by decide) (fun c1 => ?_) (fun c1 => ?_)
  · skip
    refine lv_iconst (v := 0) hx hb dX7_isVersion_15 (by decide) ?_
    refine xrz hx hb hr hlocks (by first | rfl | decide) hP hD hS ⟨rfl, ?_, ?_⟩ dX7_isVersion_16
    · exact (b1_f (fun h => h.1 c1)).symm
    · trivial
  · skip
    refine lv_iload_n hx hb dX7_isVersion_5 rfl (lv_at hl 0 rfl) ?_
    refine lv_ldc hx hb hown hk232 dX7_isVersion_6 ?_
    refine lv_icmp_gt (tgt := 15) hx hb dX7_isVersion_8 (by decide) (fun c2 => ?_) (fun c2 => ?_)
    · skip
      refine lv_iconst (v := 0) hx hb dX7_isVersion_15 (by decide) ?_
      refine xrz hx hb hr hlocks (by first | rfl | decide) hP hD hS ⟨rfl, ?_, ?_⟩ dX7_isVersion_16
      · exact (b1_f (fun h => h.2 c2)).symm
      · trivial
    · skip
      refine lv_iconst (v := 1) hx hb dX7_isVersion_11 (by decide) ?_
      refine lv_goto (tgt := 16) hx hb dX7_isVersion_12 (by decide) ?_
      refine xrz hx hb hr hlocks (by first | rfl | decide) hP hD hS ⟨rfl, ?_, ?_⟩ dX7_isVersion_16
      · exact (b1_t ⟨c1, c2⟩).symm
      · trivial

abbrev pX2_init (E : xE) (o : Nat) (w : va_W) : Prop := ∃ (sa : Nat) (ua : Nat), w = [(o, .inr (3, [.ref sa, .ref ua, .int 0])), (sa, aJ E 20 (fun _ => 0)), (ua, aJ E 20 (fun _ => 0))] ∧ (True)
set_option maxHeartbeats 4000000 in
set_option maxRecDepth 100000 in
theorem kX2_init (l : Launch) (E : xE) (o : Nat)  : KT l yX2_init wsX2_init 1 12 2 40 E [(o, .inr (3, [.null, .null, .int 0]))] [] [.ref o] (QV E (pX2_init E o)) := by
  refine KT.start (cc := cX2_init) (maxL := 1) (ret := none) (by decide) rfl (Nat.le_of_ble_eq_true rfl) ?_
  intro p e s m below meth c A H hx hb hr hlocks hml hts hown hin hP hR0 hD hap hev hz hA hS ls hl
  have hl : lv_has ls 1 [(0, .ref o)] := hl
  have hiX2 : ∀ w ∈ wsX20, w ∈ wsX2_init := by decide +kernel
  have hacJ := hts (.arrayClass .long) (by decide +kernel)
  have hf15 := hts (.fieldLink RX2 15 "SignQuorum$KeyRing" "untils" "[J") (by decide +kernel)
  have hf18 := hts (.fieldLink RX2 18 "SignQuorum$KeyRing" "count" "I") (by decide +kernel)
  have hf9 := hts (.fieldLink RX2 9 "SignQuorum$KeyRing" "secrets" "[J") (by decide +kernel)
  have hoi3 := hts (.methodLink RX2 3 objectInit) (by decide +kernel)
  have hoj := hts (.instanceMethod objectInit) (by decide +kernel)
  refine lv_aload_n hx hb dX2_init_0 rfl (lv_at hl 0 rfl) ?_
  refine W.objInit hx hb hown hoi3 hoj (hts _ (List.mem_of_getElem? (i := 3) rfl)) rfl (by rw [hml]; exact hl.1) rfl dX2_init_1 (Nat.le_of_ble_eq_true rfl) (Nat.le_of_ble_eq_true rfl) ?_
  refine W.eq (g2 := F0 m 4 ls []) rfl ?_
  refine lv_aload_n hx hb dX2_init_4 rfl (lv_at hl 0 rfl) ?_
  refine lv_bipush (v := 20) hx hb dX2_init_5 (by decide) ?_
  refine xnewa (atype := .long) (ty := .long) (cA0 := E.2 2) (N' := 20) (a0 := (20, (.inr (.inl (fun _ => 0))))) hx hb hacJ rfl 2 hev rfl hP hD hS hA (fun _ => rfl) (by decide) (by decide) (by decide +kernel) (Nat.le_of_ble_eq_true rfl) (Nat.le_of_ble_eq_true rfl) dX2_init_7 (fun q1 H hP hD hS => ?_)
  have hP : va_P E.1 vwCl [(o, .inr (3, [.null, .null, .int 0])), (q1, aJ E 20 (fun _ => 0))] H := hP
  have hD : va_D A [(o, .inr (3, [.null, .null, .int 0])), (q1, aJ E 20 (fun _ => 0))] := hD
  refine va_putF (D := E.1) (ci := 3) (v := .ref q1) (ty := tyX2 0) (C := RX2) (T := TX2) (N := 3) hx hb hts hiX2 tyX2 tyX2_ok nmX2 hown hev.1 hP hD hS 0 rfl rfl 0 (by decide) hf9 (fun _ h9 => h9) rfl hin rfl (tyX2_ok 0 (by decide)) rfl rfl (Nat.le_of_ble_eq_true rfl) dX2_init_9 (fun H locs hP hD hS => ?_)
  have hP : va_P E.1 vwCl [(o, .inr (3, [.ref q1, .null, .int 0])), (q1, aJ E 20 (fun _ => 0))] H := hP
  have hD : va_D A [(o, .inr (3, [.ref q1, .null, .int 0])), (q1, aJ E 20 (fun _ => 0))] := hD
  refine lv_aload_n hx hb dX2_init_12 rfl (lv_at hl 0 rfl) ?_
  refine lv_bipush (v := 20) hx hb dX2_init_13 (by decide) ?_
  refine xnewa (atype := .long) (ty := .long) (cA0 := E.2 2) (N' := 20) (a0 := (20, (.inr (.inl (fun _ => 0))))) hx hb hacJ rfl 2 hev rfl hP hD hS hA (fun _ => rfl) (by decide) (by decide) (by decide +kernel) (Nat.le_of_ble_eq_true rfl) (Nat.le_of_ble_eq_true rfl) dX2_init_15 (fun q2 H hP hD hS => ?_)
  have hP : va_P E.1 vwCl [(o, .inr (3, [.ref q1, .null, .int 0])), (q1, aJ E 20 (fun _ => 0)), (q2, aJ E 20 (fun _ => 0))] H := hP
  have hD : va_D A [(o, .inr (3, [.ref q1, .null, .int 0])), (q1, aJ E 20 (fun _ => 0)), (q2, aJ E 20 (fun _ => 0))] := hD
  refine va_putF (D := E.1) (ci := 3) (v := .ref q2) (ty := tyX2 1) (C := RX2) (T := TX2) (N := 3) hx hb hts hiX2 tyX2 tyX2_ok nmX2 hown hev.1 hP hD hS 0 rfl rfl 1 (by decide) hf15 (fun _ h9 => h9) rfl hin rfl (tyX2_ok 1 (by decide)) rfl rfl (Nat.le_of_ble_eq_true rfl) dX2_init_17 (fun H locs hP hD hS => ?_)
  have hP : va_P E.1 vwCl [(o, .inr (3, [.ref q1, .ref q2, .int 0])), (q1, aJ E 20 (fun _ => 0)), (q2, aJ E 20 (fun _ => 0))] H := hP
  have hD : va_D A [(o, .inr (3, [.ref q1, .ref q2, .int 0])), (q1, aJ E 20 (fun _ => 0)), (q2, aJ E 20 (fun _ => 0))] := hD
  refine lv_aload_n hx hb dX2_init_20 rfl (lv_at hl 0 rfl) ?_
  refine lv_iconst (v := 0) hx hb dX2_init_21 (by decide) ?_
  refine va_put (D := E.1) (ci := 3) (v := .int 0) (ty := tyX2 2) (C := RX2) (T := TX2) (N := 3) hx hb hts hiX2 tyX2 tyX2_ok nmX2 hown hev.1 hP hD hS 0 rfl rfl 2 (by decide) hf18 (fun _ h9 => h9) rfl (tyX2_ok 2 (by decide)) rfl rfl (Nat.le_of_ble_eq_true rfl) dX2_init_22 (fun H locs hP hD hS => ?_)
  have hP : va_P E.1 vwCl [(o, .inr (3, [.ref q1, .ref q2, .int 0])), (q1, aJ E 20 (fun _ => 0)), (q2, aJ E 20 (fun _ => 0))] H := hP
  have hD : va_D A [(o, .inr (3, [.ref q1, .ref q2, .int 0])), (q1, aJ E 20 (fun _ => 0)), (q2, aJ E 20 (fun _ => 0))] := hD
  refine xrv hx hb hr hlocks hP hD hS ⟨q1, q2, rfl, ?_⟩ dX2_init_25
  trivial

abbrev pX2_add (E : xE) (o : Nat) (sa : Nat) (ua : Nat) (n : Nat) (fs : Nat → Int64) (fu : Nat → Int64) (a : Int64) (b : Int64) (r : Int32) (w : va_W) : Prop := ∃ (n2 : Nat) (gs : Nat → Int64) (gu : Nat → Int64), w = [(o, .inr (3, [.ref sa, .ref ua, .int (nI n2)])), (sa, aJ E 20 gs), (ua, aJ E 20 gu)] ∧ ((20 ≤ n ∧ r = -1 ∧ n2 = n ∧ gs = fs ∧ gu = fu) ∨ (n < 20 ∧ r = nI n ∧ n2 = n + 1 ∧ gs = vp_updL fs n a ∧ gu = vp_updL fu n b))
set_option maxHeartbeats 4000000 in
set_option maxRecDepth 100000 in
theorem kX2_add (l : Launch) (E : xE) (o : Nat) (sa : Nat) (ua : Nat) (n : Nat) (fs : Nat → Int64) (fu : Nat → Int64) (a : Int64) (b : Int64) (hn : n ≤ 20) : KT l yX2_add wsX2_add 0 0 0 0 E [(o, .inr (3, [.ref sa, .ref ua, .int (nI n)])), (sa, aJ E 20 fs), (ua, aJ E 20 fu)] [] [.ref o, .long a, .long b] (QI E (pX2_add E o sa ua n fs fu a b)) := by
  refine KT.start (cc := cX2_add) (maxL := 5) (ret := (some .int)) (by decide) rfl (Nat.le_of_ble_eq_true rfl) ?_
  intro p e s m below meth c A H hx hb hr hlocks hml hts hown hin hP hR0 hD hap hev hz hA hS ls hl
  have hl : lv_has ls 5 [(0, .ref o), (1, .long a), (3, .long b)] := hl
  have hiX2 : ∀ w ∈ wsX20, w ∈ wsX2_add := by decide +kernel
  have hf15 := hts (.fieldLink RX2 15 "SignQuorum$KeyRing" "untils" "[J") (by decide +kernel)
  have hf18 := hts (.fieldLink RX2 18 "SignQuorum$KeyRing" "count" "I") (by decide +kernel)
  have hf9 := hts (.fieldLink RX2 9 "SignQuorum$KeyRing" "secrets" "[J") (by decide +kernel)
  refine lv_aload_n hx hb dX2_add_0 rfl (lv_at hl 0 rfl) ?_
  refine va_get (D := E.1) (ci := 3) (v := .int (nI n)) (C := RX2) (T := TX2) (N := 3) hx hb hts hiX2 hown hev.1 hP 0 rfl rfl 2 (by decide) hf18 (fun _ h9 => h9) rfl dX2_add_1 ?_
  refine lv_bipush (v := 20) hx hb dX2_add_4 (by decide) ?_
  refine lv_icmp_lt (tgt := 11) hx hb dX2_add_6 (by decide) (fun c1 => ?_) (fun c1 => ?_)
  · skip
    have kc1 : n < 20 := (nI_ltI (a := n) (b := 20) (by omega) (by omega)).mp c1
    refine lv_aload_n hx hb dX2_add_11 rfl (lv_at hl 0 rfl) ?_
    refine va_get (D := E.1) (ci := 3) (v := .ref sa) (C := RX2) (T := TX2) (N := 3) hx hb hts hiX2 hown hev.1 hP 0 rfl rfl 0 (by decide) hf9 (fun _ h9 => h9) rfl dX2_add_12 ?_
    refine lv_aload_n hx hb dX2_add_15 rfl (lv_at hl 0 rfl) ?_
    refine va_get (D := E.1) (ci := 3) (v := .int (nI n)) (C := RX2) (T := TX2) (N := 3) hx hb hts hiX2 hown hev.1 hP 0 rfl rfl 2 (by decide) hf18 (fun _ h9 => h9) rfl dX2_add_16 ?_
    refine lv_lload_n hx hb dX2_add_19 rfl (lv_at hl 1 rfl) ?_
    refine xlast (k := n) hx hb hev.1 hP hD hS 1 2 rfl rfl (by omega) (by decide) dX2_add_20 (fun H locs hP hD hS => ?_)
    obtain ⟨f2, ef2⟩ : ∃ y9_ : Nat → Int64, y9_ = vp_updL fs n a := ⟨_, rfl⟩
    rw [← ef2] at hP hD
    have hP : va_P E.1 vwCl [(o, .inr (3, [.ref sa, .ref ua, .int (nI n)])), (sa, aJ E 20 f2), (ua, aJ E 20 fu)] H := hP
    have hD : va_D A [(o, .inr (3, [.ref sa, .ref ua, .int (nI n)])), (sa, aJ E 20 f2), (ua, aJ E 20 fu)] := hD
    refine lv_aload_n hx hb dX2_add_21 rfl (lv_at hl 0 rfl) ?_
    refine va_get (D := E.1) (ci := 3) (v := .ref ua) (C := RX2) (T := TX2) (N := 3) hx hb hts hiX2 hown hev.1 hP 0 rfl rfl 1 (by decide) hf15 (fun _ h9 => h9) rfl dX2_add_22 ?_
    refine lv_aload_n hx hb dX2_add_25 rfl (lv_at hl 0 rfl) ?_
    refine va_get (D := E.1) (ci := 3) (v := .int (nI n)) (C := RX2) (T := TX2) (N := 3) hx hb hts hiX2 hown hev.1 hP 0 rfl rfl 2 (by decide) hf18 (fun _ h9 => h9) rfl dX2_add_26 ?_
    refine lv_lload_n hx hb dX2_add_29 rfl (lv_at hl 2 rfl) ?_
    refine xlast (k := n) hx hb hev.1 hP hD hS 2 2 rfl rfl (by omega) (by decide) dX2_add_30 (fun H locs hP hD hS => ?_)
    obtain ⟨f3, ef3⟩ : ∃ y9_ : Nat → Int64, y9_ = vp_updL fu n b := ⟨_, rfl⟩
    rw [← ef3] at hP hD
    have hP : va_P E.1 vwCl [(o, .inr (3, [.ref sa, .ref ua, .int (nI n)])), (sa, aJ E 20 f2), (ua, aJ E 20 f3)] H := hP
    have hD : va_D A [(o, .inr (3, [.ref sa, .ref ua, .int (nI n)])), (sa, aJ E 20 f2), (ua, aJ E 20 f3)] := hD
    refine lv_aload_n hx hb dX2_add_31 rfl (lv_at hl 0 rfl) ?_
    refine lv_dup hx hb dX2_add_32 rfl ?_
    refine va_get (D := E.1) (ci := 3) (v := .int (nI n)) (C := RX2) (T := TX2) (N := 3) hx hb hts hiX2 hown hev.1 hP 0 rfl rfl 2 (by decide) hf18 (fun _ h9 => h9) rfl dX2_add_33 ?_
    refine lv_iconst (v := 1) hx hb dX2_add_36 (by decide) ?_
    refine lv_iadd hx hb dX2_add_37 ?_
    refine xtop (y := nI (n + 1)) ((nI_add n 1).trans (congrArg nI (by omega))) ?_
    refine va_put (D := E.1) (ci := 3) (v := .int (nI (n + 1))) (ty := tyX2 2) (C := RX2) (T := TX2) (N := 3) hx hb hts hiX2 tyX2 tyX2_ok nmX2 hown hev.1 hP hD hS 0 rfl rfl 2 (by decide) hf18 (fun _ h9 => h9) rfl (tyX2_ok 2 (by decide)) rfl rfl (Nat.le_of_ble_eq_true rfl) dX2_add_38 (fun H locs hP hD hS => ?_)
    have hP : va_P E.1 vwCl [(o, .inr (3, [.ref sa, .ref ua, .int (nI (n + 1))])), (sa, aJ E 20 f2), (ua, aJ E 20 f3)] H := hP
    have hD : va_D A [(o, .inr (3, [.ref sa, .ref ua, .int (nI (n + 1))])), (sa, aJ E 20 f2), (ua, aJ E 20 f3)] := hD
    refine lv_aload_n hx hb dX2_add_41 rfl (lv_at hl 0 rfl) ?_
    refine va_get (D := E.1) (ci := 3) (v := .int (nI (n + 1))) (C := RX2) (T := TX2) (N := 3) hx hb hts hiX2 hown hev.1 hP 0 rfl rfl 2 (by decide) hf18 (fun _ h9 => h9) rfl dX2_add_42 ?_
    refine lv_iconst (v := 1) hx hb dX2_add_45 (by decide) ?_
    refine lv_isub hx hb dX2_add_46 ?_
    refine xtop (y := nI ((n + 1) - 1)) (pk_sub (a := (n + 1)) (b := 1) (by omega)) ?_
    refine xri hx hb hr hlocks hP hD hS ⟨(n + 1), f2, f3, rfl, ?_⟩ dX2_add_47
    exact Or.inr ⟨by omega, by simp, rfl, by assumption, by assumption⟩
  · skip
    have kc1 : ¬ n < 20 := fun h9 => c1 ((nI_ltI (a := n) (b := 20) (by omega) (by omega)).mpr h9)
    refine lv_iconst (v := (-1)) hx hb dX2_add_9 (by decide) ?_
    refine xri hx hb hr hlocks hP hD hS ⟨n, fs, fu, rfl, ?_⟩ dX2_add_10
    exact Or.inl ⟨by omega, rfl, rfl, rfl, rfl⟩

abbrev pX2_has (E : xE) (o : Nat) (sa : Nat) (ua : Nat) (n : Nat) (k : Int32) (r : Int32) (w : va_W) : Prop := w = [] ∧ r = b1 (isN k n) ∧ (True)
set_option maxHeartbeats 4000000 in
set_option maxRecDepth 100000 in
theorem kX2_has (l : Launch) (E : xE) (o : Nat) (sa : Nat) (ua : Nat) (n : Nat) (k : Int32) (hn : n ≤ 20) : KT l yX2_has wsX2_has 0 0 0 0 E [] [(o, .inr (3, [.ref sa, .ref ua, .int (nI n)]))] [.ref o, .int k] (QI E (pX2_has E o sa ua n k)) := by
  refine KT.start (cc := cX2_has) (maxL := 2) (ret := (some .boolean)) (by decide) rfl (Nat.le_of_ble_eq_true rfl) ?_
  intro p e s m below meth c A H hx hb hr hlocks hml hts hown hin hP hR0 hD hap hev hz hA hS ls hl
  have hl : lv_has ls 2 [(0, .ref o), (1, .int k)] := hl
  have hiX2 : ∀ w ∈ wsX20, w ∈ wsX2_has := by decide +kernel
  have hf18 := hts (.fieldLink RX2 18 "SignQuorum$KeyRing" "count" "I") (by decide +kernel)
  refine lv_iload_n hx hb dX2_has_0 rfl (lv_at hl 1 rfl) ?_
  refine lv_if_lt (tgt := 16) hx hb dX2_has_1 (by decide) (fun c1 => ?_) (fun c1 => ?_)
  · skip
    refine lv_iconst (v := 0) hx hb dX2_has_16 (by decide) ?_
    refine xrz hx hb hr hlocks (by first | rfl | decide) hP hD hS ⟨rfl, ?_, ?_⟩ dX2_has_17
    · exact (b1_f (isN_no1 c1 (by omega))).symm
    · trivial
  · skip
    refine lv_iload_n hx hb dX2_has_4 rfl (lv_at hl 1 rfl) ?_
    refine lv_aload_n hx hb dX2_has_5 rfl (lv_at hl 0 rfl) ?_
    refine va_get (D := E.1) (ci := 3) (v := .int (nI n)) (C := RX2) (T := TX2) (N := 3) hx hb hts hiX2 hown hev.1 (xro hR0 hap hS) 0 rfl rfl 2 (by decide) hf18 (fun _ h9 => h9) rfl dX2_has_6 ?_
    refine lv_icmp_ge (tgt := 16) hx hb dX2_has_9 (by decide) (fun c2 => ?_) (fun c2 => ?_)
    · skip
      refine lv_iconst (v := 0) hx hb dX2_has_16 (by decide) ?_
      refine xrz hx hb hr hlocks (by first | rfl | decide) hP hD hS ⟨rfl, ?_, ?_⟩ dX2_has_17
      · exact (b1_f (isN_no2 (n := n) c2 (by omega))).symm
      · trivial
    · skip
      refine lv_iconst (v := 1) hx hb dX2_has_12 (by decide) ?_
      refine lv_goto (tgt := 17) hx hb dX2_has_13 (by decide) ?_
      refine xrz hx hb hr hlocks (by first | rfl | decide) hP hD hS ⟨rfl, ?_, ?_⟩ dX2_has_17
      · exact (b1_t (in_t n c1 c2 (by omega))).symm
      · trivial

abbrev pX2_secretOf (E : xE) (o : Nat) (sa : Nat) (ua : Nat) (n : Nat) (fs : Nat → Int64) (k : Nat) (r : Int64) (w : va_W) : Prop := w = [] ∧ r = fs k ∧ (True)
set_option maxHeartbeats 4000000 in
set_option maxRecDepth 100000 in
theorem kX2_secretOf (l : Launch) (E : xE) (o : Nat) (sa : Nat) (ua : Nat) (n : Nat) (fs : Nat → Int64) (k : Nat) (hn : n ≤ 20) (hk : k < n) : KT l yX2_secretOf wsX2_secretOf 1 21 0 0 E [] [(o, .inr (3, [.ref sa, .ref ua, .int (nI n)])), (sa, aJ E 20 fs)] [.ref o, .int (nI k)] (QL E (pX2_secretOf E o sa ua n fs k)) := by
  refine KT.start (cc := cX2_secretOf) (maxL := 2) (ret := (some .long)) (by decide) rfl (Nat.le_of_ble_eq_true rfl) ?_
  intro p e s m below meth c A H hx hb hr hlocks hml hts hown hin hP hR0 hD hap hev hz hA hS ls hl
  have hl : lv_has ls 2 [(0, .ref o), (1, .int (nI k))] := hl
  have hiX2 : ∀ w ∈ wsX20, w ∈ wsX2_secretOf := by decide +kernel
  have hf9 := hts (.fieldLink RX2 9 "SignQuorum$KeyRing" "secrets" "[J") (by decide +kernel)
  refine lv_aload_n hx hb dX2_secretOf_0 rfl (lv_at hl 0 rfl) ?_
  refine lv_iload_n hx hb dX2_secretOf_1 rfl (lv_at hl 1 rfl) ?_
  have hP := hP.sub (ws' := [] ++ []) [] rfl
  have hD := hD.sub (ws' := [] ++ []) [] (by decide) rfl
  refine xci (va_runV (As := [.int (nI k)]) (rest := []) ⟨hx, hb, hml, hown, hts⟩ (kX2_has l E o sa ua n (nI k) (by first | assumption | omega) H.size) (cwV 1 hts gX2_secretOf_X2_has rfl rfl rfl (by decide +kernel) ⟨Nat.le_of_ble_eq_true rfl, Nat.le_of_ble_eq_true rfl⟩) ⟨CP.blind, (va_recv hev.1 (xro hR0 hap hS) (ci := 3) (q0 := 0) rfl rfl), (xpre hev hz hA hP hD hS hR0 hap [0] rfl)⟩ rfl rfl hl.1 rfl (lv_room (Nat.le_of_ble_eq_true rfl)) dX2_secretOf_2 ⟨Nat.le_of_ble_eq_true rfl, Nat.le_of_ble_eq_true rfl⟩) hP hD hS hA (fun r1 w2 H locs h3 hP hD hS => ?_)
  obtain ⟨rfl, rfl, h3⟩ := h3
  try dsimp only at h3
  have hP : va_P E.1 vwCl [] H := hP
  have hD : va_D A [] := hD
  refine lv_if_eq (tgt := 17) hx hb dX2_secretOf_5 (by decide) (fun c4 => absurd c4 (b1_n.mpr (⟨k, hk, rfl⟩))) (fun c4 => ?_)
  refine lv_aload_n hx hb dX2_secretOf_8 rfl (lv_at hl 0 rfl) ?_
  refine va_get (D := E.1) (ci := 3) (v := .ref sa) (C := RX2) (T := TX2) (N := 3) hx hb hts hiX2 hown hev.1 (xro hR0 hap hS) 0 rfl rfl 0 (by decide) hf9 (fun _ h9 => h9) rfl dX2_secretOf_9 ?_
  refine lv_iload_n hx hb dX2_secretOf_12 rfl (lv_at hl 1 rfl) ?_
  refine xlald (k := (k)) hx hb hev.1 (xro hR0 hap hS) 1 2 rfl rfl (by omega) (by decide) dX2_secretOf_13 ?_
  refine lv_goto (tgt := 18) hx hb dX2_secretOf_14 (by decide) ?_
  refine xrl hx hb hr hlocks hP hD hS ⟨rfl, ?_, ?_⟩ dX2_secretOf_18
  · rfl
  · trivial

abbrev pX2_unexpiredAt (E : xE) (o : Nat) (sa : Nat) (ua : Nat) (n : Nat) (fu : Nat → Int64) (t : Int64) (r : Int32) (w : va_W) : Prop := w = [] ∧ r = mk (fun k => ¬ fu k ≤ t) n ∧ (True)
set_option maxHeartbeats 4000000 in
set_option maxRecDepth 100000 in
theorem kX2_unexpiredAt (l : Launch) (E : xE) (o : Nat) (sa : Nat) (ua : Nat) (n : Nat) (fu : Nat → Int64) (t : Int64) (hn : n ≤ 20) : KT l yX2_unexpiredAt wsX2_unexpiredAt 0 0 0 0 E [] [(o, .inr (3, [.ref sa, .ref ua, .int (nI n)])), (ua, aJ E 20 fu)] [.ref o, .long t] (QI E (pX2_unexpiredAt E o sa ua n fu t)) := by
  refine KT.start (cc := cX2_unexpiredAt) (maxL := 5) (ret := (some .int)) (by decide) rfl (Nat.le_of_ble_eq_true rfl) ?_
  intro p e s m below meth c A H hx hb hr hlocks hml hts hown hin hP hR0 hD hap hev hz hA hS ls hl
  have hl : lv_has ls 5 [(0, .ref o), (1, .long t)] := hl
  have hiX2 : ∀ w ∈ wsX20, w ∈ wsX2_unexpiredAt := by decide +kernel
  have hf15 := hts (.fieldLink RX2 15 "SignQuorum$KeyRing" "untils" "[J") (by decide +kernel)
  have hf18 := hts (.fieldLink RX2 18 "SignQuorum$KeyRing" "count" "I") (by decide +kernel)
  refine lv_iconst (v := 0) hx hb dX2_unexpiredAt_0 (by decide) ?_
  refine lv_istore_n (lv' := [(3, .int 0), (0, .ref o), (1, .long t)]) hx hb dX2_unexpiredAt_1 rfl hl (by decide) rfl (fun ls hl => ?_)
  refine lv_iconst (v := 0) hx hb dX2_unexpiredAt_2 (by decide) ?_
  refine lv_istore (lv' := [(4, .int 0), (3, .int 0), (0, .ref o), (1, .long t)]) hx hb dX2_unexpiredAt_3 hl (by decide) rfl (fun ls hl => ?_)
  have loop5 : ∀ (fz : Nat) (i : Nat), (i ≤ n) → (n - i < fz) → ∀ (H : Heap) (locs : List Loc), va_P E.1 vwCl [] H → va_D A [] → va_S A s.heap H locs → ∀ ls : Array Slot, lv_has ls 5 [(4, .int (nI i)), (3, .int (mk (fun k => ¬ fu k ≤ t) i)), (0, .ref o), (1, .long t)] → W p l e ({ frames := 0, cells := 0, slots := 0, locals := 0 } : Room) s m ([.ref o, .long t] : List Value).toArray below meth c H locs 0 0 (MQ below (QI E (pX2_unexpiredAt E o sa ua n fu t) A) ([.ref o, .long t] : List Value).toArray s 0 0 A) (F0 m 5 ls []) := by
    intro fz
    induction fz with
    | zero =>
      intro i hi hfuel
      exact absurd hfuel (by omega)
    | succ fz ih =>
      intro i hi hfuel H locs hP hD hS ls hl
      refine lv_iload hx hb dX2_unexpiredAt_5 (lv_at hl 0 rfl) ?_
      refine lv_aload_n hx hb dX2_unexpiredAt_7 rfl (lv_at hl 2 rfl) ?_
      refine va_get (D := E.1) (ci := 3) (v := .int (nI n)) (C := RX2) (T := TX2) (N := 3) hx hb hts hiX2 hown hev.1 (xro hR0 hap hS) 0 rfl rfl 2 (by decide) hf18 (fun _ h9 => h9) rfl dX2_unexpiredAt_8 ?_
      refine lv_icmp_ge (tgt := 39) hx hb dX2_unexpiredAt_11 (by decide) (fun c1 => ?_) (fun c1 => ?_)
      · skip
        have kc1 : n ≤ i := (nI_leI (a := n) (b := i) (by omega) (by omega)).mp c1
        refine lv_iload_n hx hb dX2_unexpiredAt_39 rfl (lv_at hl 1 rfl) ?_
        refine xri hx hb hr hlocks hP hD hS ⟨rfl, ?_, ?_⟩ dX2_unexpiredAt_40
        · obtain rfl : i = n := by omega
          rfl
        · trivial
      · skip
        have kc1 : ¬ n ≤ i := fun h9 => c1 ((nI_leI (a := n) (b := i) (by omega) (by omega)).mpr h9)
        refine lv_aload_n hx hb dX2_unexpiredAt_14 rfl (lv_at hl 2 rfl) ?_
        refine va_get (D := E.1) (ci := 3) (v := .ref ua) (C := RX2) (T := TX2) (N := 3) hx hb hts hiX2 hown hev.1 (xro hR0 hap hS) 0 rfl rfl 1 (by decide) hf15 (fun _ h9 => h9) rfl dX2_unexpiredAt_15 ?_
        refine lv_iload hx hb dX2_unexpiredAt_18 (lv_at hl 0 rfl) ?_
        refine xlald (k := (i)) hx hb hev.1 (xro hR0 hap hS) 1 2 rfl rfl (by omega) (by decide) dX2_unexpiredAt_20 ?_
        refine lv_lload_n hx hb dX2_unexpiredAt_21 rfl (lv_at hl 3 rfl) ?_
        refine W.lcmp hx hb dX2_unexpiredAt_22 ?_
        refine lv_if_le (tgt := 33) hx hb dX2_unexpiredAt_23 (by decide) (fun c2 => ?_) (fun c2 => ?_)
        · skip
          have kc2 : (fu i) ≤ t := (lg_cmp_le (fu i) t).mp c2
          have em : mk (fun k => ¬ fu k ≤ t) i = mk (fun k => ¬ fu k ≤ t) (i + 1) := (mk_no (fun h9 => h9 kc2)).symm
          rw [em] at hl
          refine lv_iinc (v := nI (i + 1)) (lv' := [(4, .int (nI (i + 1))), (3, .int (mk (fun k => ¬ fu k ≤ t) (i + 1))), (0, .ref o), (1, .long t)]) hx hb dX2_unexpiredAt_33 hl (k := 0) rfl ((nI_add i 1).trans (congrArg nI (by omega))) (by decide) rfl (fun ls hl => ?_)
          refine lv_goto (tgt := 5) hx hb dX2_unexpiredAt_36 (by decide) ?_
          exact ih  (i + 1) (by omega) (by omega) _ _ hP hD hS ls (lv_sub hl [0, 1, 2, 3] rfl)
        · skip
          have kc2 : ¬ (fu i) ≤ t := fun h9 => c2 ((lg_cmp_le (fu i) t).mpr h9)
          refine lv_iload_n hx hb dX2_unexpiredAt_26 rfl (lv_at hl 1 rfl) ?_
          refine lv_iconst (v := 1) hx hb dX2_unexpiredAt_27 (by decide) ?_
          refine lv_iload hx hb dX2_unexpiredAt_28 (lv_at hl 0 rfl) ?_
          refine lv_ishl hx hb dX2_unexpiredAt_30 ?_
          refine lv_ior hx hb dX2_unexpiredAt_31 ?_
          refine xtop (y := mk (fun k => ¬ fu k ≤ t) (i + 1)) (mk_yes (q := fun k => ¬ fu k ≤ t) kc2) ?_
          refine lv_istore_n (lv' := [(3, .int (mk (fun k => ¬ fu k ≤ t) (i + 1))), (4, .int (nI i)), (0, .ref o), (1, .long t)]) hx hb dX2_unexpiredAt_32 rfl hl (by decide) rfl (fun ls hl => ?_)
          refine lv_iinc (v := nI (i + 1)) (lv' := [(4, .int (nI (i + 1))), (3, .int (mk (fun k => ¬ fu k ≤ t) (i + 1))), (0, .ref o), (1, .long t)]) hx hb dX2_unexpiredAt_33 hl (k := 1) rfl ((nI_add i 1).trans (congrArg nI (by omega))) (by decide) rfl (fun ls hl => ?_)
          refine lv_goto (tgt := 5) hx hb dX2_unexpiredAt_36 (by decide) ?_
          exact ih  (i + 1) (by omega) (by omega) _ _ hP hD hS ls (lv_sub hl [0, 1, 2, 3] rfl)
  exact loop5 (n + 1) 0 (by omega) (by omega) _ _ hP hD hS ls (lv_sub hl [0, 1, 2, 3] rfl)
