abbrev pX6_init (E : xE) (o : Nat) (w : va_W) : Prop := ∃ (ra : Nat) (va : Nat), w = [(o, .inr (7, [.ref ra, .ref va, .int 0])), (ra, aI E 7 (fun _ => 0)), (va, aI E 7 (fun _ => 0))] ∧ (True)
set_option maxHeartbeats 4000000 in
set_option maxRecDepth 100000 in
theorem kX6_init (l : Launch) (E : xE) (o : Nat)  : KT l yX6_init wsX6_init 1 12 2 14 E [(o, .inr (7, [.null, .null, .int 0]))] [] [.ref o] (QV E (pX6_init E o)) := by
  refine KT.start (cc := cX6_init) (maxL := 1) (ret := none) (by decide) rfl (Nat.le_of_ble_eq_true rfl) ?_
  intro p e s m below meth c A H hx hb hr hlocks hml hts hown hin hP hR0 hD hap hev hz hA hS ls hl
  have hl : lv_has ls 1 [(0, .ref o)] := hl
  have hiX6 : ∀ w ∈ wsX60, w ∈ wsX6_init := by decide +kernel
  have hacI := hts (.arrayClass .int) (by decide +kernel)
  have hf15 := hts (.fieldLink RX6 15 "SignQuorum$Told" "versions" "[I") (by decide +kernel)
  have hf18 := hts (.fieldLink RX6 18 "SignQuorum$Told" "count" "I") (by decide +kernel)
  have hf9 := hts (.fieldLink RX6 9 "SignQuorum$Told" "roles" "[I") (by decide +kernel)
  have hoi3 := hts (.methodLink RX6 3 objectInit) (by decide +kernel)
  have hoj := hts (.instanceMethod objectInit) (by decide +kernel)
  refine lv_aload_n hx hb dX6_init_0 rfl (lv_at hl 0 rfl) ?_
  refine W.objInit hx hb hown hoi3 hoj (hts _ (List.mem_of_getElem? (i := 3) rfl)) rfl (by rw [hml]; exact hl.1) rfl dX6_init_1 (Nat.le_of_ble_eq_true rfl) (Nat.le_of_ble_eq_true rfl) ?_
  refine W.eq (g2 := F0 m 4 ls []) rfl ?_
  refine lv_aload_n hx hb dX6_init_4 rfl (lv_at hl 0 rfl) ?_
  refine lv_bipush (v := 7) hx hb dX6_init_5 (by decide) ?_
  refine xnewa (atype := .int) (ty := .int) (cA0 := E.2 1) (N' := 7) (a0 := (7, (.inl (fun _ => 0)))) hx hb hacI rfl 1 hev rfl hP hD hS hA (fun _ => rfl) (by decide) (by decide) (by decide +kernel) (Nat.le_of_ble_eq_true rfl) (Nat.le_of_ble_eq_true rfl) dX6_init_7 (fun q1 H hP hD hS => ?_)
  have hP : va_P E.1 vwCl [(o, .inr (7, [.null, .null, .int 0])), (q1, aI E 7 (fun _ => 0))] H := hP
  have hD : va_D A [(o, .inr (7, [.null, .null, .int 0])), (q1, aI E 7 (fun _ => 0))] := hD
  refine va_putF (D := E.1) (ci := 7) (v := .ref q1) (ty := tyX6 0) (C := RX6) (T := TX6) (N := 3) hx hb hts hiX6 tyX6 tyX6_ok nmX6 hown hev.1 hP hD hS 0 rfl rfl 0 (by decide) hf9 (fun _ h9 => h9) rfl hin rfl (tyX6_ok 0 (by decide)) rfl rfl (Nat.le_of_ble_eq_true rfl) dX6_init_9 (fun H locs hP hD hS => ?_)
  have hP : va_P E.1 vwCl [(o, .inr (7, [.ref q1, .null, .int 0])), (q1, aI E 7 (fun _ => 0))] H := hP
  have hD : va_D A [(o, .inr (7, [.ref q1, .null, .int 0])), (q1, aI E 7 (fun _ => 0))] := hD
  refine lv_aload_n hx hb dX6_init_12 rfl (lv_at hl 0 rfl) ?_
  refine lv_bipush (v := 7) hx hb dX6_init_13 (by decide) ?_
  refine xnewa (atype := .int) (ty := .int) (cA0 := E.2 1) (N' := 7) (a0 := (7, (.inl (fun _ => 0)))) hx hb hacI rfl 1 hev rfl hP hD hS hA (fun _ => rfl) (by decide) (by decide) (by decide +kernel) (Nat.le_of_ble_eq_true rfl) (Nat.le_of_ble_eq_true rfl) dX6_init_15 (fun q2 H hP hD hS => ?_)
  have hP : va_P E.1 vwCl [(o, .inr (7, [.ref q1, .null, .int 0])), (q1, aI E 7 (fun _ => 0)), (q2, aI E 7 (fun _ => 0))] H := hP
  have hD : va_D A [(o, .inr (7, [.ref q1, .null, .int 0])), (q1, aI E 7 (fun _ => 0)), (q2, aI E 7 (fun _ => 0))] := hD
  refine va_putF (D := E.1) (ci := 7) (v := .ref q2) (ty := tyX6 1) (C := RX6) (T := TX6) (N := 3) hx hb hts hiX6 tyX6 tyX6_ok nmX6 hown hev.1 hP hD hS 0 rfl rfl 1 (by decide) hf15 (fun _ h9 => h9) rfl hin rfl (tyX6_ok 1 (by decide)) rfl rfl (Nat.le_of_ble_eq_true rfl) dX6_init_17 (fun H locs hP hD hS => ?_)
  have hP : va_P E.1 vwCl [(o, .inr (7, [.ref q1, .ref q2, .int 0])), (q1, aI E 7 (fun _ => 0)), (q2, aI E 7 (fun _ => 0))] H := hP
  have hD : va_D A [(o, .inr (7, [.ref q1, .ref q2, .int 0])), (q1, aI E 7 (fun _ => 0)), (q2, aI E 7 (fun _ => 0))] := hD
  refine lv_aload_n hx hb dX6_init_20 rfl (lv_at hl 0 rfl) ?_
  refine lv_iconst (v := 0) hx hb dX6_init_21 (by decide) ?_
  refine va_put (D := E.1) (ci := 7) (v := .int 0) (ty := tyX6 2) (C := RX6) (T := TX6) (N := 3) hx hb hts hiX6 tyX6 tyX6_ok nmX6 hown hev.1 hP hD hS 0 rfl rfl 2 (by decide) hf18 (fun _ h9 => h9) rfl (tyX6_ok 2 (by decide)) rfl rfl (Nat.le_of_ble_eq_true rfl) dX6_init_22 (fun H locs hP hD hS => ?_)
  have hP : va_P E.1 vwCl [(o, .inr (7, [.ref q1, .ref q2, .int 0])), (q1, aI E 7 (fun _ => 0)), (q2, aI E 7 (fun _ => 0))] H := hP
  have hD : va_D A [(o, .inr (7, [.ref q1, .ref q2, .int 0])), (q1, aI E 7 (fun _ => 0)), (q2, aI E 7 (fun _ => 0))] := hD
  refine xrv hx hb hr hlocks hP hD hS ⟨q1, q2, rfl, ?_⟩ dX6_init_25
  trivial

abbrev pX6_placeOf (E : xE) (o : Nat) (ra : Nat) (va : Nat) (n : Nat) (fr : Nat → Int32) (x : Int32) (r : Int32) (w : va_W) : Prop := ∃ (j : Nat), w = [] ∧ r = nI j ∧ (isPl fr n x j)
set_option maxHeartbeats 4000000 in
set_option maxRecDepth 100000 in
theorem kX6_placeOf (l : Launch) (E : xE) (o : Nat) (ra : Nat) (va : Nat) (n : Nat) (fr : Nat → Int32) (x : Int32) (hn : n ≤ 7) : KT l yX6_placeOf wsX6_placeOf 0 0 0 0 E [] [(o, .inr (7, [.ref ra, .ref va, .int (nI n)])), (ra, aI E 7 fr)] [.ref o, .int x] (QI E (pX6_placeOf E o ra va n fr x)) := by
  refine KT.start (cc := cX6_placeOf) (maxL := 3) (ret := (some .int)) (by decide) rfl (Nat.le_of_ble_eq_true rfl) ?_
  intro p e s m below meth c A H hx hb hr hlocks hml hts hown hin hP hR0 hD hap hev hz hA hS ls hl
  have hl : lv_has ls 3 [(0, .ref o), (1, .int x)] := hl
  have hiX6 : ∀ w ∈ wsX60, w ∈ wsX6_placeOf := by decide +kernel
  have hf18 := hts (.fieldLink RX6 18 "SignQuorum$Told" "count" "I") (by decide +kernel)
  have hf9 := hts (.fieldLink RX6 9 "SignQuorum$Told" "roles" "[I") (by decide +kernel)
  refine lv_iconst (v := 0) hx hb dX6_placeOf_0 (by decide) ?_
  refine lv_istore_n (lv' := [(2, .int 0), (0, .ref o), (1, .int x)]) hx hb dX6_placeOf_1 rfl hl (by decide) rfl (fun ls hl => ?_)
  have loop2 : ∀ (fz : Nat) (i : Nat), (i ≤ n) → (∀ k, k < i → ¬ fr k = x) → (n - i < fz) → ∀ (H : Heap) (locs : List Loc), va_P E.1 vwCl [] H → va_D A [] → va_S A s.heap H locs → ∀ ls : Array Slot, lv_has ls 3 [(2, .int (nI i)), (0, .ref o), (1, .int x)] → W p l e ({ frames := 0, cells := 0, slots := 0, locals := 0 } : Room) s m ([.ref o, .int x] : List Value).toArray below meth c H locs 0 0 (MQ below (QI E (pX6_placeOf E o ra va n fr x) A) ([.ref o, .int x] : List Value).toArray s 0 0 A) (F0 m 2 ls []) := by
    intro fz
    induction fz with
    | zero =>
      intro i hi hno hfuel
      exact absurd hfuel (by omega)
    | succ fz ih =>
      intro i hi hno hfuel H locs hP hD hS ls hl
      refine lv_iload_n hx hb dX6_placeOf_2 rfl (lv_at hl 0 rfl) ?_
      refine lv_aload_n hx hb dX6_placeOf_3 rfl (lv_at hl 1 rfl) ?_
      refine va_get (D := E.1) (ci := 7) (v := .int (nI n)) (C := RX6) (T := TX6) (N := 3) hx hb hts hiX6 hown hev.1 (xro hR0 hap hS) 0 rfl rfl 2 (by decide) hf18 (fun _ h9 => h9) rfl dX6_placeOf_4 ?_
      refine lv_icmp_ge (tgt := 28) hx hb dX6_placeOf_7 (by decide) (fun c1 => ?_) (fun c1 => ?_)
      · skip
        have kc1 : n ≤ i := (nI_leI (a := n) (b := i) (by omega) (by omega)).mp c1
        refine lv_aload_n hx hb dX6_placeOf_28 rfl (lv_at hl 1 rfl) ?_
        refine va_get (D := E.1) (ci := 7) (v := .int (nI n)) (C := RX6) (T := TX6) (N := 3) hx hb hts hiX6 hown hev.1 (xro hR0 hap hS) 0 rfl rfl 2 (by decide) hf18 (fun _ h9 => h9) rfl dX6_placeOf_29 ?_
        refine xri hx hb hr hlocks hP hD hS ⟨n, rfl, ?_, ?_⟩ dX6_placeOf_32
        · rfl
        · exact ⟨Nat.le_refl n, fun k hk => hno k (by omega), fun h => absurd h (by omega)⟩
      · skip
        have kc1 : ¬ n ≤ i := fun h9 => c1 ((nI_leI (a := n) (b := i) (by omega) (by omega)).mpr h9)
        refine lv_aload_n hx hb dX6_placeOf_10 rfl (lv_at hl 1 rfl) ?_
        refine va_get (D := E.1) (ci := 7) (v := .ref ra) (C := RX6) (T := TX6) (N := 3) hx hb hts hiX6 hown hev.1 (xro hR0 hap hS) 0 rfl rfl 0 (by decide) hf9 (fun _ h9 => h9) rfl dX6_placeOf_11 ?_
        refine lv_iload_n hx hb dX6_placeOf_14 rfl (lv_at hl 0 rfl) ?_
        refine xiald (k := (i)) hx hb hev.1 (xro hR0 hap hS) 1 1 rfl rfl (by omega) (by decide) dX6_placeOf_15 ?_
        refine lv_iload_n hx hb dX6_placeOf_16 rfl (lv_at hl 2 rfl) ?_
        refine lv_icmp_ne (tgt := 22) hx hb dX6_placeOf_17 (by decide) (fun c2 => ?_) (fun c2 => ?_)
        · skip
          refine lv_iinc (v := nI (i + 1)) (lv' := [(2, .int (nI (i + 1))), (0, .ref o), (1, .int x)]) hx hb dX6_placeOf_22 hl (k := 0) rfl ((nI_add i 1).trans (congrArg nI (by omega))) (by decide) rfl (fun ls hl => ?_)
          refine lv_goto (tgt := 2) hx hb dX6_placeOf_25 (by decide) ?_
          exact ih  (i + 1) (by omega) (lt_s hno c2) (by omega) _ _ hP hD hS ls (lv_sub hl [0, 1, 2] rfl)
        · skip
          refine lv_iload_n hx hb dX6_placeOf_20 rfl (lv_at hl 0 rfl) ?_
          refine xri hx hb hr hlocks hP hD hS ⟨i, rfl, ?_, ?_⟩ dX6_placeOf_21
          · rfl
          · exact ⟨by omega, hno, fun _ => c2⟩
  exact loop2 (n + 1) 0 (by omega) (fun _ h => absurd h (by omega)) (by omega) _ _ hP hD hS ls (lv_sub hl [0, 1, 2] rfl)

abbrev pX6_versionOf (E : xE) (o : Nat) (ra : Nat) (va : Nat) (n : Nat) (fr : Nat → Int32) (fv : Nat → Int32) (x : Int32) (r : Int32) (w : va_W) : Prop := ∃ (j : Nat), w = [] ∧ r = tv fv n j ∧ (isPl fr n x j)
set_option maxHeartbeats 4000000 in
set_option maxRecDepth 100000 in
theorem kX6_versionOf (l : Launch) (E : xE) (o : Nat) (ra : Nat) (va : Nat) (n : Nat) (fr : Nat → Int32) (fv : Nat → Int32) (x : Int32) (hn : n ≤ 7) : KT l yX6_versionOf wsX6_versionOf 1 22 0 0 E [] [(o, .inr (7, [.ref ra, .ref va, .int (nI n)])), (ra, aI E 7 fr), (va, aI E 7 fv)] [.ref o, .int x] (QI E (pX6_versionOf E o ra va n fr fv x)) := by
  refine KT.start (cc := cX6_versionOf) (maxL := 3) (ret := (some .int)) (by decide) rfl (Nat.le_of_ble_eq_true rfl) ?_
  intro p e s m below meth c A H hx hb hr hlocks hml hts hown hin hP hR0 hD hap hev hz hA hS ls hl
  have hl : lv_has ls 3 [(0, .ref o), (1, .int x)] := hl
  have hiX6 : ∀ w ∈ wsX60, w ∈ wsX6_versionOf := by decide +kernel
  have hf15 := hts (.fieldLink RX6 15 "SignQuorum$Told" "versions" "[I") (by decide +kernel)
  have hf18 := hts (.fieldLink RX6 18 "SignQuorum$Told" "count" "I") (by decide +kernel)
  refine lv_aload_n hx hb dX6_versionOf_0 rfl (lv_at hl 0 rfl) ?_
  refine lv_iload_n hx hb dX6_versionOf_1 rfl (lv_at hl 1 rfl) ?_
  have hP := hP.sub (ws' := [] ++ []) [] rfl
  have hD := hD.sub (ws' := [] ++ []) [] (by decide) rfl
  refine xci (va_runV (As := [.int x]) (rest := []) ⟨hx, hb, hml, hown, hts⟩ (kX6_placeOf l E o ra va n fr x (by first | assumption | omega) H.size) (cwV 1 hts gX6_versionOf_X6_placeOf rfl rfl rfl (by decide +kernel) ⟨Nat.le_of_ble_eq_true rfl, Nat.le_of_ble_eq_true rfl⟩) ⟨CP.blind, (va_recv hev.1 (xro hR0 hap hS) (ci := 7) (q0 := 0) rfl rfl), (xpre hev hz hA hP hD hS hR0 hap [0, 1] rfl)⟩ rfl rfl hl.1 rfl (lv_room (Nat.le_of_ble_eq_true rfl)) dX6_versionOf_2 ⟨Nat.le_of_ble_eq_true rfl, Nat.le_of_ble_eq_true rfl⟩) hP hD hS hA (fun r1 w2 H locs h3 hP hD hS => ?_)
  obtain ⟨j4, rfl, rfl, h3⟩ := h3
  try dsimp only at h3
  have hP : va_P E.1 vwCl [] H := hP
  have hD : va_D A [] := hD
  refine lv_istore_n (lv' := [(2, .int (nI j4)), (0, .ref o), (1, .int x)]) hx hb dX6_versionOf_5 rfl hl (by decide) rfl (fun ls hl => ?_)
  have hj7 := h3.1
  refine lv_iload_n hx hb dX6_versionOf_6 rfl (lv_at hl 0 rfl) ?_
  refine lv_aload_n hx hb dX6_versionOf_7 rfl (lv_at hl 1 rfl) ?_
  refine va_get (D := E.1) (ci := 7) (v := .int (nI n)) (C := RX6) (T := TX6) (N := 3) hx hb hts hiX6 hown hev.1 (xro hR0 hap hS) 0 rfl rfl 2 (by decide) hf18 (fun _ h9 => h9) rfl dX6_versionOf_8 ?_
  refine lv_icmp_ge (tgt := 23) hx hb dX6_versionOf_11 (by decide) (fun c5 => ?_) (fun c5 => ?_)
  · skip
    have kc5 : n ≤ j4 := (nI_leI (a := n) (b := j4) (by omega) (by omega)).mp c5
    refine lv_iconst (v := 0) hx hb dX6_versionOf_23 (by decide) ?_
    refine xri hx hb hr hlocks hP hD hS ⟨j4, rfl, ?_, ?_⟩ dX6_versionOf_24
    · unfold tv
      rw [if_neg (by omega)]
    · exact h3
  · skip
    have kc5 : ¬ n ≤ j4 := fun h9 => c5 ((nI_leI (a := n) (b := j4) (by omega) (by omega)).mpr h9)
    refine lv_aload_n hx hb dX6_versionOf_14 rfl (lv_at hl 1 rfl) ?_
    refine va_get (D := E.1) (ci := 7) (v := .ref va) (C := RX6) (T := TX6) (N := 3) hx hb hts hiX6 hown hev.1 (xro hR0 hap hS) 0 rfl rfl 1 (by decide) hf15 (fun _ h9 => h9) rfl dX6_versionOf_15 ?_
    refine lv_iload_n hx hb dX6_versionOf_18 rfl (lv_at hl 0 rfl) ?_
    refine xiald (k := (j4)) hx hb hev.1 (xro hR0 hap hS) 2 1 rfl rfl (by omega) (by decide) dX6_versionOf_19 ?_
    refine lv_goto (tgt := 24) hx hb dX6_versionOf_20 (by decide) ?_
    refine xri hx hb hr hlocks hP hD hS ⟨j4, rfl, ?_, ?_⟩ dX6_versionOf_24
    · unfold tv
      rw [if_pos (by omega)]
    · exact h3

abbrev pX6_keepsAllOf (E : xE) (o : Nat) (ra : Nat) (va : Nat) (n : Nat) (fr : Nat → Int32) (fv : Nat → Int32) (o2 : Nat) (ra2 : Nat) (va2 : Nat) (n2 : Nat) (fr2 : Nat → Int32) (fv2 : Nat → Int32) (r : Int32) (w : va_W) : Prop := w = [] ∧ r = b1 (∀ i, i < n2 → kOf fr fv n (fr2 i) (fv2 i)) ∧ (True)
set_option maxHeartbeats 4000000 in
set_option maxRecDepth 100000 in
theorem kX6_keepsAllOf (l : Launch) (E : xE) (o : Nat) (ra : Nat) (va : Nat) (n : Nat) (fr : Nat → Int32) (fv : Nat → Int32) (o2 : Nat) (ra2 : Nat) (va2 : Nat) (n2 : Nat) (fr2 : Nat → Int32) (fv2 : Nat → Int32) (hn : n ≤ 7) (hn2 : n2 ≤ 7) : KT l yX6_keepsAllOf wsX6_keepsAllOf 2 44 0 0 E [] [(o, .inr (7, [.ref ra, .ref va, .int (nI n)])), (ra, aI E 7 fr), (va, aI E 7 fv), (o2, .inr (7, [.ref ra2, .ref va2, .int (nI n2)])), (ra2, aI E 7 fr2), (va2, aI E 7 fv2)] [.ref o, .ref o2] (QI E (pX6_keepsAllOf E o ra va n fr fv o2 ra2 va2 n2 fr2 fv2)) := by
  refine KT.start (cc := cX6_keepsAllOf) (maxL := 3) (ret := (some .boolean)) (by decide) rfl (Nat.le_of_ble_eq_true rfl) ?_
  intro p e s m below meth c A H hx hb hr hlocks hml hts hown hin hP hR0 hD hap hev hz hA hS ls hl
  have hl : lv_has ls 3 [(0, .ref o), (1, .ref o2)] := hl
  have hiX6 : ∀ w ∈ wsX60, w ∈ wsX6_keepsAllOf := by decide +kernel
  have hf15 := hts (.fieldLink RX6 15 "SignQuorum$Told" "versions" "[I") (by decide +kernel)
  have hf18 := hts (.fieldLink RX6 18 "SignQuorum$Told" "count" "I") (by decide +kernel)
  have hf9 := hts (.fieldLink RX6 9 "SignQuorum$Told" "roles" "[I") (by decide +kernel)
  refine lv_iconst (v := 0) hx hb dX6_keepsAllOf_0 (by decide) ?_
  refine lv_istore_n (lv' := [(2, .int 0), (0, .ref o), (1, .ref o2)]) hx hb dX6_keepsAllOf_1 rfl hl (by decide) rfl (fun ls hl => ?_)
  have loop2 : ∀ (fz : Nat) (i : Nat), (i ≤ n2) → (∀ k, k < i → kOf fr fv n (fr2 k) (fv2 k)) → (n2 - i < fz) → ∀ (H : Heap) (locs : List Loc), va_P E.1 vwCl [] H → va_D A [] → va_S A s.heap H locs → ∀ ls : Array Slot, lv_has ls 3 [(2, .int (nI i)), (0, .ref o), (1, .ref o2)] → W p l e ({ frames := 2, cells := 0, slots := 0, locals := 44 } : Room) s m ([.ref o, .ref o2] : List Value).toArray below meth c H locs 0 0 (MQ below (QI E (pX6_keepsAllOf E o ra va n fr fv o2 ra2 va2 n2 fr2 fv2) A) ([.ref o, .ref o2] : List Value).toArray s 0 0 A) (F0 m 2 ls []) := by
    intro fz
    induction fz with
    | zero =>
      intro i hi hk hfuel
      exact absurd hfuel (by omega)
    | succ fz ih =>
      intro i hi hk hfuel H locs hP hD hS ls hl
      refine lv_iload_n hx hb dX6_keepsAllOf_2 rfl (lv_at hl 0 rfl) ?_
      refine lv_aload_n hx hb dX6_keepsAllOf_3 rfl (lv_at hl 2 rfl) ?_
      refine va_get (D := E.1) (ci := 7) (v := .int (nI n2)) (C := RX6) (T := TX6) (N := 3) hx hb hts hiX6 hown hev.1 (xro hR0 hap hS) 3 rfl rfl 2 (by decide) hf18 (fun _ h9 => h9) rfl dX6_keepsAllOf_4 ?_
      refine lv_icmp_ge (tgt := 37) hx hb dX6_keepsAllOf_7 (by decide) (fun c1 => ?_) (fun c1 => ?_)
      · skip
        have kc1 : n2 ≤ i := (nI_leI (a := n2) (b := i) (by omega) (by omega)).mp c1
        refine lv_iconst (v := 1) hx hb dX6_keepsAllOf_37 (by decide) ?_
        refine xrz hx hb hr hlocks (by first | rfl | decide) hP hD hS ⟨rfl, ?_, ?_⟩ dX6_keepsAllOf_38
        · exact (b1_t (fun k hk9 => hk k (by omega))).symm
        · trivial
      · skip
        have kc1 : ¬ n2 ≤ i := fun h9 => c1 ((nI_leI (a := n2) (b := i) (by omega) (by omega)).mpr h9)
        refine lv_aload_n hx hb dX6_keepsAllOf_10 rfl (lv_at hl 1 rfl) ?_
        refine lv_aload_n hx hb dX6_keepsAllOf_11 rfl (lv_at hl 2 rfl) ?_
        refine va_get (D := E.1) (ci := 7) (v := .ref ra2) (C := RX6) (T := TX6) (N := 3) hx hb hts hiX6 hown hev.1 (xro hR0 hap hS) 3 rfl rfl 0 (by decide) hf9 (fun _ h9 => h9) rfl dX6_keepsAllOf_12 ?_
        refine lv_iload_n hx hb dX6_keepsAllOf_15 rfl (lv_at hl 0 rfl) ?_
        refine xiald (k := (i)) hx hb hev.1 (xro hR0 hap hS) 4 1 rfl rfl (by omega) (by decide) dX6_keepsAllOf_16 ?_
        have hP := hP.sub (ws' := [] ++ []) [] rfl
        have hD := hD.sub (ws' := [] ++ []) [] (by decide) rfl
        refine xci (va_runV (As := [.int (fr2 i)]) (rest := []) ⟨hx, hb, hml, hown, hts⟩ (kX6_versionOf l E o ra va n fr fv (fr2 i) (by first | assumption | omega) H.size) (cwV 1 hts gX6_keepsAllOf_X6_versionOf rfl rfl rfl (by decide +kernel) ⟨Nat.le_of_ble_eq_true rfl, Nat.le_of_ble_eq_true rfl⟩) ⟨CP.blind, (va_recv hev.1 (xro hR0 hap hS) (ci := 7) (q0 := 0) rfl rfl), (xpre hev hz hA hP hD hS hR0 hap [0, 1, 2] rfl)⟩ rfl rfl hl.1 rfl (lv_room (Nat.le_of_ble_eq_true rfl)) dX6_keepsAllOf_17 ⟨Nat.le_of_ble_eq_true rfl, Nat.le_of_ble_eq_true rfl⟩) hP hD hS hA (fun r2 w3 H locs h4 hP hD hS => ?_)
        obtain ⟨j5, rfl, rfl, h4⟩ := h4
        try dsimp only at h4
        have hP : va_P E.1 vwCl [] H := hP
        have hD : va_D A [] := hD
        refine lv_aload_n hx hb dX6_keepsAllOf_20 rfl (lv_at hl 2 rfl) ?_
        refine va_get (D := E.1) (ci := 7) (v := .ref va2) (C := RX6) (T := TX6) (N := 3) hx hb hts hiX6 hown hev.1 (xro hR0 hap hS) 3 rfl rfl 1 (by decide) hf15 (fun _ h9 => h9) rfl dX6_keepsAllOf_21 ?_
        refine lv_iload_n hx hb dX6_keepsAllOf_24 rfl (lv_at hl 0 rfl) ?_
        refine xiald (k := (i)) hx hb hev.1 (xro hR0 hap hS) 5 1 rfl rfl (by omega) (by decide) dX6_keepsAllOf_25 ?_
        refine lv_icmp_ge (tgt := 31) hx hb dX6_keepsAllOf_26 (by decide) (fun c6 => ?_) (fun c6 => ?_)
        · skip
          refine lv_iinc (v := nI (i + 1)) (lv' := [(2, .int (nI (i + 1))), (0, .ref o), (1, .ref o2)]) hx hb dX6_keepsAllOf_31 hl (k := 0) rfl ((nI_add i 1).trans (congrArg nI (by omega))) (by decide) rfl (fun ls hl => ?_)
          refine lv_goto (tgt := 2) hx hb dX6_keepsAllOf_34 (by decide) ?_
          exact ih  (i + 1) (by omega) (lt_s hk ⟨j5, h4, c6⟩) (by omega) _ _ hP hD hS ls (lv_sub hl [0, 1, 2] rfl)
        · skip
          refine lv_iconst (v := 0) hx hb dX6_keepsAllOf_29 (by decide) ?_
          refine xrz hx hb hr hlocks (by first | rfl | decide) hP hD hS ⟨rfl, ?_, ?_⟩ dX6_keepsAllOf_30
          · exact (b1_f (fun h9 => by obtain ⟨j9, q1, q2⟩ := h9 i (by omega); rw [isPl_u q1 h4] at q2; exact c6 q2)).symm
          · trivial
  exact loop2 (n2 + 1) 0 (by omega) (fun _ h => absurd h (by omega)) (by omega) _ _ hP hD hS ls (lv_sub hl [0, 1, 2] rfl)

abbrev pX6_put (E : xE) (o : Nat) (ra : Nat) (va : Nat) (n : Nat) (fr : Nat → Int32) (fv : Nat → Int32) (x : Int32) (v : Int32) (r : Int32) (w : va_W) : Prop := ∃ (n2 : Nat) (gr : Nat → Int32) (gv : Nat → Int32) (j : Nat), w = [(o, .inr (7, [.ref ra, .ref va, .int (nI n2)])), (ra, aI E 7 gr), (va, aI E 7 gv)] ∧ r = b1 (j < 7) ∧ (isPl fr n x j ∧ (j < 7 → n2 = max n (j + 1) ∧ gr = upd fr j x ∧ gv = upd fv j v) ∧ (¬ j < 7 → n2 = n ∧ gr = fr ∧ gv = fv))
set_option maxHeartbeats 4000000 in
set_option maxRecDepth 100000 in
theorem kX6_put (l : Launch) (E : xE) (o : Nat) (ra : Nat) (va : Nat) (n : Nat) (fr : Nat → Int32) (fv : Nat → Int32) (x : Int32) (v : Int32) (hn : n ≤ 7) : KT l yX6_put wsX6_put 1 22 0 0 E [(o, .inr (7, [.ref ra, .ref va, .int (nI n)])), (ra, aI E 7 fr), (va, aI E 7 fv)] [] [.ref o, .int x, .int v] (QI E (pX6_put E o ra va n fr fv x v)) := by
  refine KT.start (cc := cX6_put) (maxL := 4) (ret := (some .boolean)) (by decide) rfl (Nat.le_of_ble_eq_true rfl) ?_
  intro p e s m below meth c A H hx hb hr hlocks hml hts hown hin hP hR0 hD hap hev hz hA hS ls hl
  have hl : lv_has ls 4 [(0, .ref o), (1, .int x), (2, .int v)] := hl
  have hiX6 : ∀ w ∈ wsX60, w ∈ wsX6_put := by decide +kernel
  have hf15 := hts (.fieldLink RX6 15 "SignQuorum$Told" "versions" "[I") (by decide +kernel)
  have hf18 := hts (.fieldLink RX6 18 "SignQuorum$Told" "count" "I") (by decide +kernel)
  have hf9 := hts (.fieldLink RX6 9 "SignQuorum$Told" "roles" "[I") (by decide +kernel)
  have hmx1 := hts (.methodLink RX6 26 Lib.Math.max.name) (by decide +kernel)
  have hmx2 := hts (.static Lib.Math.max.name) (by decide +kernel)
  have hmx3 := hts (.initialized "java/lang/Math") (by decide +kernel)
  have hmx4 := hts (.code Lib.Math.max.name Lib.Math.max.code 2 (some .int)) (by decide +kernel)
  refine lv_aload_n hx hb dX6_put_0 rfl (lv_at hl 0 rfl) ?_
  refine lv_iload_n hx hb dX6_put_1 rfl (lv_at hl 1 rfl) ?_
  have hP := hP.sub (ws' := [] ++ [(o, .inr (7, [.ref ra, .ref va, .int (nI n)])), (ra, aI E 7 fr), (va, aI E 7 fv)]) [0, 1, 2] rfl
  have hD := hD.sub (ws' := [] ++ [(o, .inr (7, [.ref ra, .ref va, .int (nI n)])), (ra, aI E 7 fr), (va, aI E 7 fv)]) [0, 1, 2] (by decide) rfl
  refine xci (va_runV (As := [.int x]) (rest := []) ⟨hx, hb, hml, hown, hts⟩ (kX6_placeOf l E o ra va n fr x (by first | assumption | omega) H.size) (cwV 1 hts gX6_put_X6_placeOf rfl rfl rfl (by decide +kernel) ⟨Nat.le_of_ble_eq_true rfl, Nat.le_of_ble_eq_true rfl⟩) ⟨CP.blind, (va_recv hev.1 hP (ci := 7) (q0 := 0) rfl rfl), (xpre hev hz hA hP hD hS hR0 hap [0, 1] rfl)⟩ rfl rfl hl.1 rfl (lv_room (Nat.le_of_ble_eq_true rfl)) dX6_put_2 ⟨Nat.le_of_ble_eq_true rfl, Nat.le_of_ble_eq_true rfl⟩) hP hD hS hA (fun r1 w2 H locs h3 hP hD hS => ?_)
  obtain ⟨j4, rfl, rfl, h3⟩ := h3
  try dsimp only at h3
  have hP : va_P E.1 vwCl [(o, .inr (7, [.ref ra, .ref va, .int (nI n)])), (ra, aI E 7 fr), (va, aI E 7 fv)] H := hP
  have hD : va_D A [(o, .inr (7, [.ref ra, .ref va, .int (nI n)])), (ra, aI E 7 fr), (va, aI E 7 fv)] := hD
  refine lv_istore_n (lv' := [(3, .int (nI j4)), (0, .ref o), (1, .int x), (2, .int v)]) hx hb dX6_put_5 rfl hl (by decide) rfl (fun ls hl => ?_)
  have hj7 := h3.1
  refine lv_iload_n hx hb dX6_put_6 rfl (lv_at hl 0 rfl) ?_
  refine lv_bipush (v := 7) hx hb dX6_put_7 (by decide) ?_
  refine lv_icmp_lt (tgt := 14) hx hb dX6_put_9 (by decide) (fun c5 => ?_) (fun c5 => ?_)
  · skip
    have kc5 : j4 < 7 := (nI_ltI (a := j4) (b := 7) (by omega) (by omega)).mp c5
    refine lv_aload_n hx hb dX6_put_14 rfl (lv_at hl 1 rfl) ?_
    refine va_get (D := E.1) (ci := 7) (v := .ref ra) (C := RX6) (T := TX6) (N := 3) hx hb hts hiX6 hown hev.1 hP 0 rfl rfl 0 (by decide) hf9 (fun _ h9 => h9) rfl dX6_put_15 ?_
    refine lv_iload_n hx hb dX6_put_18 rfl (lv_at hl 0 rfl) ?_
    refine lv_iload_n hx hb dX6_put_19 rfl (lv_at hl 2 rfl) ?_
    refine xiast (k := j4) hx hb hev.1 hP hD hS 1 1 rfl rfl (by omega) (by decide) dX6_put_20 (fun H locs hP hD hS => ?_)
    obtain ⟨f6, ef6⟩ : ∃ y9_ : Nat → Int32, y9_ = upd fr j4 x := ⟨_, rfl⟩
    rw [← ef6] at hP hD
    have hP : va_P E.1 vwCl [(o, .inr (7, [.ref ra, .ref va, .int (nI n)])), (ra, aI E 7 f6), (va, aI E 7 fv)] H := hP
    have hD : va_D A [(o, .inr (7, [.ref ra, .ref va, .int (nI n)])), (ra, aI E 7 f6), (va, aI E 7 fv)] := hD
    refine lv_aload_n hx hb dX6_put_21 rfl (lv_at hl 1 rfl) ?_
    refine va_get (D := E.1) (ci := 7) (v := .ref va) (C := RX6) (T := TX6) (N := 3) hx hb hts hiX6 hown hev.1 hP 0 rfl rfl 1 (by decide) hf15 (fun _ h9 => h9) rfl dX6_put_22 ?_
    refine lv_iload_n hx hb dX6_put_25 rfl (lv_at hl 0 rfl) ?_
    refine lv_iload_n hx hb dX6_put_26 rfl (lv_at hl 3 rfl) ?_
    refine xiast (k := j4) hx hb hev.1 hP hD hS 2 1 rfl rfl (by omega) (by decide) dX6_put_27 (fun H locs hP hD hS => ?_)
    obtain ⟨f7, ef7⟩ : ∃ y9_ : Nat → Int32, y9_ = upd fv j4 v := ⟨_, rfl⟩
    rw [← ef7] at hP hD
    have hP : va_P E.1 vwCl [(o, .inr (7, [.ref ra, .ref va, .int (nI n)])), (ra, aI E 7 f6), (va, aI E 7 f7)] H := hP
    have hD : va_D A [(o, .inr (7, [.ref ra, .ref va, .int (nI n)])), (ra, aI E 7 f6), (va, aI E 7 f7)] := hD
    refine lv_aload_n hx hb dX6_put_28 rfl (lv_at hl 1 rfl) ?_
    refine lv_aload_n hx hb dX6_put_29 rfl (lv_at hl 1 rfl) ?_
    refine va_get (D := E.1) (ci := 7) (v := .int (nI n)) (C := RX6) (T := TX6) (N := 3) hx hb hts hiX6 hown hev.1 hP 0 rfl rfl 2 (by decide) hf18 (fun _ h9 => h9) rfl dX6_put_30 ?_
    refine lv_iload_n hx hb dX6_put_33 rfl (lv_at hl 0 rfl) ?_
    refine lv_iconst (v := 1) hx hb dX6_put_34 (by decide) ?_
    refine lv_iadd hx hb dX6_put_35 ?_
    refine xtop (y := nI (j4 + 1)) ((nI_add j4 1).trans (congrArg nI (by omega))) ?_
    refine va_mmax hx hb (by rw [hml]; exact hl.1.symm) hown hmx1 hmx2 hmx3 hmx4 (Nat.le_of_ble_eq_true rfl) (Nat.le_of_ble_eq_true rfl) (Nat.le_of_ble_eq_true rfl) (Nat.le_of_ble_eq_true rfl) dX6_put_36 ?_
    refine xtop (y := jmax (nI n) (nI (j4 + 1))) (rfl) ?_
    refine xtop (y := nI (max n (j4 + 1))) (jmax_nI (by omega) (by omega)) ?_
    refine va_put (D := E.1) (ci := 7) (v := .int (nI (max n (j4 + 1)))) (ty := tyX6 2) (C := RX6) (T := TX6) (N := 3) hx hb hts hiX6 tyX6 tyX6_ok nmX6 hown hev.1 hP hD hS 0 rfl rfl 2 (by decide) hf18 (fun _ h9 => h9) rfl (tyX6_ok 2 (by decide)) rfl rfl (Nat.le_of_ble_eq_true rfl) dX6_put_39 (fun H locs hP hD hS => ?_)
    have hP : va_P E.1 vwCl [(o, .inr (7, [.ref ra, .ref va, .int (nI (max n (j4 + 1)))])), (ra, aI E 7 f6), (va, aI E 7 f7)] H := hP
    have hD : va_D A [(o, .inr (7, [.ref ra, .ref va, .int (nI (max n (j4 + 1)))])), (ra, aI E 7 f6), (va, aI E 7 f7)] := hD
    refine lv_iconst (v := 1) hx hb dX6_put_42 (by decide) ?_
    refine xrz hx hb hr hlocks (by first | rfl | decide) hP hD hS ⟨(max n (j4 + 1)), f6, f7, j4, rfl, ?_, ?_⟩ dX6_put_43
    · exact (b1_t kc5).symm
    · exact ⟨h3, fun _ => ⟨rfl, by assumption, by assumption⟩, fun q => absurd kc5 q⟩
  · skip
    have kc5 : ¬ j4 < 7 := fun h9 => c5 ((nI_ltI (a := j4) (b := 7) (by omega) (by omega)).mpr h9)
    refine lv_iconst (v := 0) hx hb dX6_put_12 (by decide) ?_
    refine xrz hx hb hr hlocks (by first | rfl | decide) hP hD hS ⟨n, fr, fv, j4, rfl, ?_, ?_⟩ dX6_put_13
    · exact (b1_f kc5).symm
    · exact ⟨h3, fun q => absurd q kc5, fun _ => ⟨rfl, rfl, rfl⟩⟩

abbrev pX1_init (E : xE) (o : Nat) (w : va_W) : Prop := ∃ (pa : Nat) (ta : Nat) (ea : Nat), w = [(o, .inr (2, [.ref pa, .ref ta, .ref ea, .int 0])), (pa, aI E 6 (fun _ => 0)), (ta, aI E 6 (fun _ => 0)), (ea, aZ E 6 (fun _ => 0))] ∧ (True)
set_option maxHeartbeats 4000000 in
set_option maxRecDepth 100000 in
theorem kX1_init (l : Launch) (E : xE) (o : Nat)  : KT l yX1_init wsX1_init 1 12 3 18 E [(o, .inr (2, [.null, .null, .null, .int 0]))] [] [.ref o] (QV E (pX1_init E o)) := by
  refine KT.start (cc := cX1_init) (maxL := 1) (ret := none) (by decide) rfl (Nat.le_of_ble_eq_true rfl) ?_
  intro p e s m below meth c A H hx hb hr hlocks hml hts hown hin hP hR0 hD hap hev hz hA hS ls hl
  have hl : lv_has ls 1 [(0, .ref o)] := hl
  have hiX1 : ∀ w ∈ wsX10, w ∈ wsX1_init := by decide +kernel
  have hacI := hts (.arrayClass .int) (by decide +kernel)
  have hacZ := hts (.arrayClass .boolean) (by decide +kernel)
  have hf15 := hts (.fieldLink RX1 15 "SignQuorum$Delegations" "targets" "[I") (by decide +kernel)
  have hf18 := hts (.fieldLink RX1 18 "SignQuorum$Delegations" "ending" "[Z") (by decide +kernel)
  have hf22 := hts (.fieldLink RX1 22 "SignQuorum$Delegations" "count" "I") (by decide +kernel)
  have hf9 := hts (.fieldLink RX1 9 "SignQuorum$Delegations" "patterns" "[I") (by decide +kernel)
  have hoi3 := hts (.methodLink RX1 3 objectInit) (by decide +kernel)
  have hoj := hts (.instanceMethod objectInit) (by decide +kernel)
  refine lv_aload_n hx hb dX1_init_0 rfl (lv_at hl 0 rfl) ?_
  refine W.objInit hx hb hown hoi3 hoj (hts _ (List.mem_of_getElem? (i := 3) rfl)) rfl (by rw [hml]; exact hl.1) rfl dX1_init_1 (Nat.le_of_ble_eq_true rfl) (Nat.le_of_ble_eq_true rfl) ?_
  refine W.eq (g2 := F0 m 4 ls []) rfl ?_
  refine lv_aload_n hx hb dX1_init_4 rfl (lv_at hl 0 rfl) ?_
  refine lv_bipush (v := 6) hx hb dX1_init_5 (by decide) ?_
  refine xnewa (atype := .int) (ty := .int) (cA0 := E.2 1) (N' := 6) (a0 := (6, (.inl (fun _ => 0)))) hx hb hacI rfl 1 hev rfl hP hD hS hA (fun _ => rfl) (by decide) (by decide) (by decide +kernel) (Nat.le_of_ble_eq_true rfl) (Nat.le_of_ble_eq_true rfl) dX1_init_7 (fun q1 H hP hD hS => ?_)
  have hP : va_P E.1 vwCl [(o, .inr (2, [.null, .null, .null, .int 0])), (q1, aI E 6 (fun _ => 0))] H := hP
  have hD : va_D A [(o, .inr (2, [.null, .null, .null, .int 0])), (q1, aI E 6 (fun _ => 0))] := hD
  refine va_putF (D := E.1) (ci := 2) (v := .ref q1) (ty := tyX1 0) (C := RX1) (T := TX1) (N := 4) hx hb hts hiX1 tyX1 tyX1_ok nmX1 hown hev.1 hP hD hS 0 rfl rfl 0 (by decide) hf9 (fun _ h9 => h9) rfl hin rfl (tyX1_ok 0 (by decide)) rfl rfl (Nat.le_of_ble_eq_true rfl) dX1_init_9 (fun H locs hP hD hS => ?_)
  have hP : va_P E.1 vwCl [(o, .inr (2, [.ref q1, .null, .null, .int 0])), (q1, aI E 6 (fun _ => 0))] H := hP
  have hD : va_D A [(o, .inr (2, [.ref q1, .null, .null, .int 0])), (q1, aI E 6 (fun _ => 0))] := hD
  refine lv_aload_n hx hb dX1_init_12 rfl (lv_at hl 0 rfl) ?_
  refine lv_bipush (v := 6) hx hb dX1_init_13 (by decide) ?_
  refine xnewa (atype := .int) (ty := .int) (cA0 := E.2 1) (N' := 6) (a0 := (6, (.inl (fun _ => 0)))) hx hb hacI rfl 1 hev rfl hP hD hS hA (fun _ => rfl) (by decide) (by decide) (by decide +kernel) (Nat.le_of_ble_eq_true rfl) (Nat.le_of_ble_eq_true rfl) dX1_init_15 (fun q2 H hP hD hS => ?_)
  have hP : va_P E.1 vwCl [(o, .inr (2, [.ref q1, .null, .null, .int 0])), (q1, aI E 6 (fun _ => 0)), (q2, aI E 6 (fun _ => 0))] H := hP
  have hD : va_D A [(o, .inr (2, [.ref q1, .null, .null, .int 0])), (q1, aI E 6 (fun _ => 0)), (q2, aI E 6 (fun _ => 0))] := hD
  refine va_putF (D := E.1) (ci := 2) (v := .ref q2) (ty := tyX1 1) (C := RX1) (T := TX1) (N := 4) hx hb hts hiX1 tyX1 tyX1_ok nmX1 hown hev.1 hP hD hS 0 rfl rfl 1 (by decide) hf15 (fun _ h9 => h9) rfl hin rfl (tyX1_ok 1 (by decide)) rfl rfl (Nat.le_of_ble_eq_true rfl) dX1_init_17 (fun H locs hP hD hS => ?_)
  have hP : va_P E.1 vwCl [(o, .inr (2, [.ref q1, .ref q2, .null, .int 0])), (q1, aI E 6 (fun _ => 0)), (q2, aI E 6 (fun _ => 0))] H := hP
  have hD : va_D A [(o, .inr (2, [.ref q1, .ref q2, .null, .int 0])), (q1, aI E 6 (fun _ => 0)), (q2, aI E 6 (fun _ => 0))] := hD
  refine lv_aload_n hx hb dX1_init_20 rfl (lv_at hl 0 rfl) ?_
  refine lv_bipush (v := 6) hx hb dX1_init_21 (by decide) ?_
  refine xnewa (atype := .boolean) (ty := .boolean) (cA0 := E.2 3) (N' := 6) (a0 := (6, (.inl (fun _ => 0)))) hx hb hacZ rfl 3 hev rfl hP hD hS hA (fun _ => rfl) (by decide) (by decide) (by decide +kernel) (Nat.le_of_ble_eq_true rfl) (Nat.le_of_ble_eq_true rfl) dX1_init_23 (fun q3 H hP hD hS => ?_)
  have hP : va_P E.1 vwCl [(o, .inr (2, [.ref q1, .ref q2, .null, .int 0])), (q1, aI E 6 (fun _ => 0)), (q2, aI E 6 (fun _ => 0)), (q3, aZ E 6 (fun _ => 0))] H := hP
  have hD : va_D A [(o, .inr (2, [.ref q1, .ref q2, .null, .int 0])), (q1, aI E 6 (fun _ => 0)), (q2, aI E 6 (fun _ => 0)), (q3, aZ E 6 (fun _ => 0))] := hD
  refine va_putF (D := E.1) (ci := 2) (v := .ref q3) (ty := tyX1 2) (C := RX1) (T := TX1) (N := 4) hx hb hts hiX1 tyX1 tyX1_ok nmX1 hown hev.1 hP hD hS 0 rfl rfl 2 (by decide) hf18 (fun _ h9 => h9) rfl hin rfl (tyX1_ok 2 (by decide)) rfl rfl (Nat.le_of_ble_eq_true rfl) dX1_init_25 (fun H locs hP hD hS => ?_)
  have hP : va_P E.1 vwCl [(o, .inr (2, [.ref q1, .ref q2, .ref q3, .int 0])), (q1, aI E 6 (fun _ => 0)), (q2, aI E 6 (fun _ => 0)), (q3, aZ E 6 (fun _ => 0))] H := hP
  have hD : va_D A [(o, .inr (2, [.ref q1, .ref q2, .ref q3, .int 0])), (q1, aI E 6 (fun _ => 0)), (q2, aI E 6 (fun _ => 0)), (q3, aZ E 6 (fun _ => 0))] := hD
  refine lv_aload_n hx hb dX1_init_28 rfl (lv_at hl 0 rfl) ?_
  refine lv_iconst (v := 0) hx hb dX1_init_29 (by decide) ?_
  refine va_put (D := E.1) (ci := 2) (v := .int 0) (ty := tyX1 3) (C := RX1) (T := TX1) (N := 4) hx hb hts hiX1 tyX1 tyX1_ok nmX1 hown hev.1 hP hD hS 0 rfl rfl 3 (by decide) hf22 (fun _ h9 => h9) rfl (tyX1_ok 3 (by decide)) rfl rfl (Nat.le_of_ble_eq_true rfl) dX1_init_30 (fun H locs hP hD hS => ?_)
  have hP : va_P E.1 vwCl [(o, .inr (2, [.ref q1, .ref q2, .ref q3, .int 0])), (q1, aI E 6 (fun _ => 0)), (q2, aI E 6 (fun _ => 0)), (q3, aZ E 6 (fun _ => 0))] H := hP
  have hD : va_D A [(o, .inr (2, [.ref q1, .ref q2, .ref q3, .int 0])), (q1, aI E 6 (fun _ => 0)), (q2, aI E 6 (fun _ => 0)), (q3, aZ E 6 (fun _ => 0))] := hD
  refine xrv hx hb hr hlocks hP hD hS ⟨q1, q2, q3, rfl, ?_⟩ dX1_init_33
  trivial

abbrev pX1_add (E : xE) (o : Nat) (pa : Nat) (ta : Nat) (ea : Nat) (n : Nat) (fp : Nat → Int32) (ft : Nat → Int32) (fe : Nat → Int32) (x : Int32) (y : Int32) (z : Int32) (r : Int32) (w : va_W) : Prop := ∃ (n2 : Nat) (gp : Nat → Int32) (gt : Nat → Int32) (ge : Nat → Int32), w = [(o, .inr (2, [.ref pa, .ref ta, .ref ea, .int (nI n2)])), (pa, aI E 6 gp), (ta, aI E 6 gt), (ea, aZ E 6 ge)] ∧ ((6 ≤ n ∧ r = -1 ∧ n2 = n ∧ gp = fp ∧ gt = ft ∧ ge = fe) ∨ (n < 6 ∧ r = nI (n + 1) ∧ n2 = n + 1 ∧ gp = upd fp n x ∧ gt = upd ft n y ∧ ge = upd fe n (vp_nar .boolean z)))
set_option maxHeartbeats 4000000 in
set_option maxRecDepth 100000 in
theorem kX1_add (l : Launch) (E : xE) (o : Nat) (pa : Nat) (ta : Nat) (ea : Nat) (n : Nat) (fp : Nat → Int32) (ft : Nat → Int32) (fe : Nat → Int32) (x : Int32) (y : Int32) (z : Int32) (hn : n ≤ 6) : KT l yX1_add wsX1_add 0 0 0 0 E [(o, .inr (2, [.ref pa, .ref ta, .ref ea, .int (nI n)])), (pa, aI E 6 fp), (ta, aI E 6 ft), (ea, aZ E 6 fe)] [] [.ref o, .int x, .int y, .int z] (QI E (pX1_add E o pa ta ea n fp ft fe x y z)) := by
  refine KT.start (cc := cX1_add) (maxL := 4) (ret := (some .int)) (by decide) rfl (Nat.le_of_ble_eq_true rfl) ?_
  intro p e s m below meth c A H hx hb hr hlocks hml hts hown hin hP hR0 hD hap hev hz hA hS ls hl
  have hl : lv_has ls 4 [(0, .ref o), (1, .int x), (2, .int y), (3, .int z)] := hl
  have hiX1 : ∀ w ∈ wsX10, w ∈ wsX1_add := by decide +kernel
  have hf15 := hts (.fieldLink RX1 15 "SignQuorum$Delegations" "targets" "[I") (by decide +kernel)
  have hf18 := hts (.fieldLink RX1 18 "SignQuorum$Delegations" "ending" "[Z") (by decide +kernel)
  have hf22 := hts (.fieldLink RX1 22 "SignQuorum$Delegations" "count" "I") (by decide +kernel)
  have hf9 := hts (.fieldLink RX1 9 "SignQuorum$Delegations" "patterns" "[I") (by decide +kernel)
  refine lv_aload_n hx hb dX1_add_0 rfl (lv_at hl 0 rfl) ?_
  refine va_get (D := E.1) (ci := 2) (v := .int (nI n)) (C := RX1) (T := TX1) (N := 4) hx hb hts hiX1 hown hev.1 hP 0 rfl rfl 3 (by decide) hf22 (fun _ h9 => h9) rfl dX1_add_1 ?_
  refine lv_bipush (v := 6) hx hb dX1_add_4 (by decide) ?_
  refine lv_icmp_lt (tgt := 11) hx hb dX1_add_6 (by decide) (fun c1 => ?_) (fun c1 => ?_)
  · skip
    have kc1 : n < 6 := (nI_ltI (a := n) (b := 6) (by omega) (by omega)).mp c1
    refine lv_aload_n hx hb dX1_add_11 rfl (lv_at hl 0 rfl) ?_
    refine va_get (D := E.1) (ci := 2) (v := .ref pa) (C := RX1) (T := TX1) (N := 4) hx hb hts hiX1 hown hev.1 hP 0 rfl rfl 0 (by decide) hf9 (fun _ h9 => h9) rfl dX1_add_12 ?_
    refine lv_aload_n hx hb dX1_add_15 rfl (lv_at hl 0 rfl) ?_
    refine va_get (D := E.1) (ci := 2) (v := .int (nI n)) (C := RX1) (T := TX1) (N := 4) hx hb hts hiX1 hown hev.1 hP 0 rfl rfl 3 (by decide) hf22 (fun _ h9 => h9) rfl dX1_add_16 ?_
    refine lv_iload_n hx hb dX1_add_19 rfl (lv_at hl 1 rfl) ?_
    refine xiast (k := n) hx hb hev.1 hP hD hS 1 1 rfl rfl (by omega) (by decide) dX1_add_20 (fun H locs hP hD hS => ?_)
    obtain ⟨f2, ef2⟩ : ∃ y9_ : Nat → Int32, y9_ = upd fp n x := ⟨_, rfl⟩
    rw [← ef2] at hP hD
    have hP : va_P E.1 vwCl [(o, .inr (2, [.ref pa, .ref ta, .ref ea, .int (nI n)])), (pa, aI E 6 f2), (ta, aI E 6 ft), (ea, aZ E 6 fe)] H := hP
    have hD : va_D A [(o, .inr (2, [.ref pa, .ref ta, .ref ea, .int (nI n)])), (pa, aI E 6 f2), (ta, aI E 6 ft), (ea, aZ E 6 fe)] := hD
    refine lv_aload_n hx hb dX1_add_21 rfl (lv_at hl 0 rfl) ?_
    refine va_get (D := E.1) (ci := 2) (v := .ref ta) (C := RX1) (T := TX1) (N := 4) hx hb hts hiX1 hown hev.1 hP 0 rfl rfl 1 (by decide) hf15 (fun _ h9 => h9) rfl dX1_add_22 ?_
    refine lv_aload_n hx hb dX1_add_25 rfl (lv_at hl 0 rfl) ?_
    refine va_get (D := E.1) (ci := 2) (v := .int (nI n)) (C := RX1) (T := TX1) (N := 4) hx hb hts hiX1 hown hev.1 hP 0 rfl rfl 3 (by decide) hf22 (fun _ h9 => h9) rfl dX1_add_26 ?_
    refine lv_iload_n hx hb dX1_add_29 rfl (lv_at hl 2 rfl) ?_
    refine xiast (k := n) hx hb hev.1 hP hD hS 2 1 rfl rfl (by omega) (by decide) dX1_add_30 (fun H locs hP hD hS => ?_)
    obtain ⟨f3, ef3⟩ : ∃ y9_ : Nat → Int32, y9_ = upd ft n y := ⟨_, rfl⟩
    rw [← ef3] at hP hD
    have hP : va_P E.1 vwCl [(o, .inr (2, [.ref pa, .ref ta, .ref ea, .int (nI n)])), (pa, aI E 6 f2), (ta, aI E 6 f3), (ea, aZ E 6 fe)] H := hP
    have hD : va_D A [(o, .inr (2, [.ref pa, .ref ta, .ref ea, .int (nI n)])), (pa, aI E 6 f2), (ta, aI E 6 f3), (ea, aZ E 6 fe)] := hD
    refine lv_aload_n hx hb dX1_add_31 rfl (lv_at hl 0 rfl) ?_
    refine va_get (D := E.1) (ci := 2) (v := .ref ea) (C := RX1) (T := TX1) (N := 4) hx hb hts hiX1 hown hev.1 hP 0 rfl rfl 2 (by decide) hf18 (fun _ h9 => h9) rfl dX1_add_32 ?_
    refine lv_aload_n hx hb dX1_add_35 rfl (lv_at hl 0 rfl) ?_
    refine va_get (D := E.1) (ci := 2) (v := .int (nI n)) (C := RX1) (T := TX1) (N := 4) hx hb hts hiX1 hown hev.1 hP 0 rfl rfl 3 (by decide) hf22 (fun _ h9 => h9) rfl dX1_add_36 ?_
    refine lv_iload_n hx hb dX1_add_39 rfl (lv_at hl 3 rfl) ?_
    refine xzast (k := n) hx hb hev.1 hP hD hS 3 3 rfl rfl (by omega) (by decide) dX1_add_40 (fun H locs hP hD hS => ?_)
    obtain ⟨f4, ef4⟩ : ∃ y9_ : Nat → Int32, y9_ = upd fe n (vp_nar .boolean z) := ⟨_, rfl⟩
    rw [← ef4] at hP hD
    have hP : va_P E.1 vwCl [(o, .inr (2, [.ref pa, .ref ta, .ref ea, .int (nI n)])), (pa, aI E 6 f2), (ta, aI E 6 f3), (ea, aZ E 6 f4)] H := hP
    have hD : va_D A [(o, .inr (2, [.ref pa, .ref ta, .ref ea, .int (nI n)])), (pa, aI E 6 f2), (ta, aI E 6 f3), (ea, aZ E 6 f4)] := hD
    refine lv_aload_n hx hb dX1_add_41 rfl (lv_at hl 0 rfl) ?_
    refine lv_dup hx hb dX1_add_42 rfl ?_
    refine va_get (D := E.1) (ci := 2) (v := .int (nI n)) (C := RX1) (T := TX1) (N := 4) hx hb hts hiX1 hown hev.1 hP 0 rfl rfl 3 (by decide) hf22 (fun _ h9 => h9) rfl dX1_add_43 ?_
    refine lv_iconst (v := 1) hx hb dX1_add_46 (by decide) ?_
    refine lv_iadd hx hb dX1_add_47 ?_
    refine xtop (y := nI (n + 1)) ((nI_add n 1).trans (congrArg nI (by omega))) ?_
    refine va_put (D := E.1) (ci := 2) (v := .int (nI (n + 1))) (ty := tyX1 3) (C := RX1) (T := TX1) (N := 4) hx hb hts hiX1 tyX1 tyX1_ok nmX1 hown hev.1 hP hD hS 0 rfl rfl 3 (by decide) hf22 (fun _ h9 => h9) rfl (tyX1_ok 3 (by decide)) rfl rfl (Nat.le_of_ble_eq_true rfl) dX1_add_48 (fun H locs hP hD hS => ?_)
    have hP : va_P E.1 vwCl [(o, .inr (2, [.ref pa, .ref ta, .ref ea, .int (nI (n + 1))])), (pa, aI E 6 f2), (ta, aI E 6 f3), (ea, aZ E 6 f4)] H := hP
    have hD : va_D A [(o, .inr (2, [.ref pa, .ref ta, .ref ea, .int (nI (n + 1))])), (pa, aI E 6 f2), (ta, aI E 6 f3), (ea, aZ E 6 f4)] := hD
    refine lv_aload_n hx hb dX1_add_51 rfl (lv_at hl 0 rfl) ?_
    refine va_get (D := E.1) (ci := 2) (v := .int (nI (n + 1))) (C := RX1) (T := TX1) (N := 4) hx hb hts hiX1 hown hev.1 hP 0 rfl rfl 3 (by decide) hf22 (fun _ h9 => h9) rfl dX1_add_52 ?_
    refine xri hx hb hr hlocks hP hD hS ⟨(n + 1), f2, f3, f4, rfl, ?_⟩ dX1_add_55
    exact Or.inr ⟨by omega, rfl, rfl, by assumption, by assumption, by assumption⟩
  · skip
    have kc1 : ¬ n < 6 := fun h9 => c1 ((nI_ltI (a := n) (b := 6) (by omega) (by omega)).mpr h9)
    refine lv_iconst (v := (-1)) hx hb dX1_add_9 (by decide) ?_
    refine xri hx hb hr hlocks hP hD hS ⟨n, fp, ft, fe, rfl, ?_⟩ dX1_add_10
    exact Or.inl ⟨by omega, rfl, rfl, rfl, rfl, rfl⟩
