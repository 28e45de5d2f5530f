abbrev pX3_writeTo (E : xE) (h : Nat) (ms : Nat) (sc : Nat) (sa : Nat) (n : Nat) (f : Nat → Int32) (o : Nat) (na : Nat) (ma : Nat) (fn : Nat → Int32) (fm : Nat → Int32) (w : va_W) : Prop := ∃ (g : Nat → Int32), w = [(h, .inr (6, [.ref ms, .ref sc, .ref sa, .int (nI (n + 50))])), (ms, aB E 128 g)] ∧ (g = ap f n (rosB fn fm 10))
set_option maxHeartbeats 4000000 in
set_option maxRecDepth 100000 in
theorem kX3_writeTo (l : Launch) (E : xE) (h : Nat) (ms : Nat) (sc : Nat) (sa : Nat) (n : Nat) (f : Nat → Int32) (o : Nat) (na : Nat) (ma : Nat) (fn : Nat → Int32) (fm : Nat → Int32) (hn : n + 50 ≤ 119) : KT l yX3_writeTo wsX3_writeTo 2 43 0 0 E [(h, .inr (6, [.ref ms, .ref sc, .ref sa, .int (nI n)])), (ms, aB E 128 f)] [(o, .inr (4, [.ref na, .ref ma])), (na, aI E 10 fn), (ma, aI E 10 fm)] [.ref o, .ref h] (QV E (pX3_writeTo E h ms sc sa n f o na ma fn fm)) := by
  refine KT.start (cc := cX3_writeTo) (maxL := 3) (ret := none) (by decide) rfl (Nat.le_of_ble_eq_true rfl) ?_
  intro p e s m below meth c A H hx hb hr hlocks hml hts hown hin hP hR0 hD hap hev hz hA hS ls hl
  have hl : lv_has ls 3 [(0, .ref o), (1, .ref h)] := hl
  have hiX3 : ∀ w ∈ wsX30, w ∈ wsX3_writeTo := by decide +kernel
  have hf15 := hts (.fieldLink RX3 15 "SignQuorum$Roster" "members" "[I") (by decide +kernel)
  have hf9 := hts (.fieldLink RX3 9 "SignQuorum$Roster" "needed" "[I") (by decide +kernel)
  refine lv_iconst (v := 0) hx hb dX3_writeTo_0 (by decide) ?_
  refine lv_istore_n (lv' := [(2, .int 0), (0, .ref o), (1, .ref h)]) hx hb dX3_writeTo_1 rfl hl (by decide) rfl (fun ls hl => ?_)
  have loop2 : ∀ (fz : Nat) (i : Nat) (g : Nat → Int32), (i ≤ 10) → (g = ap f n (rosB fn fm i)) → (10 - i < fz) → ∀ (H : Heap) (locs : List Loc), va_P E.1 vwCl [(h, .inr (6, [.ref ms, .ref sc, .ref sa, .int (nI (n + 5 * i))])), (ms, aB E 128 g)] H → va_D A [(h, .inr (6, [.ref ms, .ref sc, .ref sa, .int (nI (n + 5 * i))])), (ms, aB E 128 g)] → va_S A s.heap H locs → ∀ ls : Array Slot, lv_has ls 3 [(2, .int (nI i)), (0, .ref o), (1, .ref h)] → W p l e ({ frames := 2, cells := 0, slots := 0, locals := 43 } : Room) s m ([.ref o, .ref h] : List Value).toArray below meth c H locs 0 0 (MQ below (QV E (pX3_writeTo E h ms sc sa n f o na ma fn fm) A) ([.ref o, .ref h] : List Value).toArray s 0 0 A) (F0 m 2 ls []) := by
    intro fz
    induction fz with
    | zero =>
      intro i g hi hg hfuel
      exact absurd hfuel (by omega)
    | succ fz ih =>
      intro i g hi hg hfuel H locs hP hD hS ls hl
      refine lv_iload_n hx hb dX3_writeTo_2 rfl (lv_at hl 0 rfl) ?_
      refine lv_bipush (v := 10) hx hb dX3_writeTo_3 (by decide) ?_
      refine lv_icmp_ge (tgt := 34) hx hb dX3_writeTo_5 (by decide) (fun c1 => ?_) (fun c1 => ?_)
      · skip
        have kc1 : 10 ≤ i := (nI_leI (a := 10) (b := i) (by omega) (by omega)).mp c1
        obtain rfl : i = 10 := by omega
        rw [show (n + 5 * 10 : Nat) = n + 50 from by omega] at hP hD
        have hP : va_P E.1 vwCl [(h, .inr (6, [.ref ms, .ref sc, .ref sa, .int (nI (n + 50))])), (ms, aB E 128 g)] H := hP
        have hD : va_D A [(h, .inr (6, [.ref ms, .ref sc, .ref sa, .int (nI (n + 50))])), (ms, aB E 128 g)] := hD
        refine xrv hx hb hr hlocks hP hD hS ⟨g, rfl, ?_⟩ dX3_writeTo_34
        exact hg
      · skip
        have kc1 : ¬ 10 ≤ i := fun h9 => c1 ((nI_leI (a := 10) (b := i) (by omega) (by omega)).mpr h9)
        refine lv_aload_n hx hb dX3_writeTo_8 rfl (lv_at hl 2 rfl) ?_
        refine lv_aload_n hx hb dX3_writeTo_9 rfl (lv_at hl 1 rfl) ?_
        refine va_get (D := E.1) (ci := 4) (v := .ref na) (C := RX3) (T := TX3) (N := 2) hx hb hts hiX3 hown hev.1 (xro hR0 hap hS) 0 rfl rfl 0 (by decide) hf9 (fun _ h9 => h9) rfl dX3_writeTo_10 ?_
        refine lv_iload_n hx hb dX3_writeTo_13 rfl (lv_at hl 0 rfl) ?_
        refine xiald (k := (i)) hx hb hev.1 (xro hR0 hap hS) 1 1 rfl rfl (by omega) (by decide) dX3_writeTo_14 ?_
        have hP := hP.sub (ws' := [(h, .inr (6, [.ref ms, .ref sc, .ref sa, .int (nI (n + 5 * i))])), (ms, aB E 128 g)] ++ []) [0, 1] rfl
        have hD := hD.sub (ws' := [(h, .inr (6, [.ref ms, .ref sc, .ref sa, .int (nI (n + 5 * i))])), (ms, aB E 128 g)] ++ []) [0, 1] (by decide) rfl
        refine xcv (va_runV (As := [.int (fn i)]) (rest := []) ⟨hx, hb, hml, hown, hts⟩ (kX5_putByte l E h ms sc sa (n + 5 * i) g (fn i) (by first | assumption | omega) H.size) (cwV 1 hts gX3_writeTo_X5_putByte rfl rfl rfl (by decide +kernel) ⟨Nat.le_of_ble_eq_true rfl, Nat.le_of_ble_eq_true rfl⟩) ⟨CP.blind, (va_recv hev.1 hP.left (ci := 6) (q0 := 0) rfl rfl), (xpre hev hz hA hP hD hS hR0 hap [] rfl)⟩ rfl rfl hl.1 rfl (lv_room (Nat.le_of_ble_eq_true rfl)) dX3_writeTo_15 ⟨Nat.le_of_ble_eq_true rfl, Nat.le_of_ble_eq_true rfl⟩) hP hD hS hA (fun w3 H locs h4 hP hD hS => ?_)
        obtain ⟨g5, rfl, h4⟩ := h4
        try dsimp only at h4
        have hP : va_P E.1 vwCl [(h, .inr (6, [.ref ms, .ref sc, .ref sa, .int (nI ((n + 5 * i) + 1))])), (ms, aB E 128 g5)] H := hP
        have hD : va_D A [(h, .inr (6, [.ref ms, .ref sc, .ref sa, .int (nI ((n + 5 * i) + 1))])), (ms, aB E 128 g5)] := hD
        refine lv_aload_n hx hb dX3_writeTo_18 rfl (lv_at hl 2 rfl) ?_
        refine lv_aload_n hx hb dX3_writeTo_19 rfl (lv_at hl 1 rfl) ?_
        refine va_get (D := E.1) (ci := 4) (v := .ref ma) (C := RX3) (T := TX3) (N := 2) hx hb hts hiX3 hown hev.1 (xro hR0 hap hS) 0 rfl rfl 1 (by decide) hf15 (fun _ h9 => h9) rfl dX3_writeTo_20 ?_
        refine lv_iload_n hx hb dX3_writeTo_23 rfl (lv_at hl 0 rfl) ?_
        refine xiald (k := (i)) hx hb hev.1 (xro hR0 hap hS) 2 1 rfl rfl (by omega) (by decide) dX3_writeTo_24 ?_
        have hP := hP.sub (ws' := [(h, .inr (6, [.ref ms, .ref sc, .ref sa, .int (nI ((n + 5 * i) + 1))])), (ms, aB E 128 g5)] ++ []) [0, 1] rfl
        have hD := hD.sub (ws' := [(h, .inr (6, [.ref ms, .ref sc, .ref sa, .int (nI ((n + 5 * i) + 1))])), (ms, aB E 128 g5)] ++ []) [0, 1] (by decide) rfl
        refine xcv (va_runV (As := [.int (fm i)]) (rest := []) ⟨hx, hb, hml, hown, hts⟩ (kX5_putInt l E h ms sc sa ((n + 5 * i) + 1) g5 (fm i) (by first | assumption | omega) H.size) (cwV 1 hts gX3_writeTo_X5_putInt rfl rfl rfl (by decide +kernel) ⟨Nat.le_of_ble_eq_true rfl, Nat.le_of_ble_eq_true rfl⟩) ⟨CP.blind, (va_recv hev.1 hP.left (ci := 6) (q0 := 0) rfl rfl), (xpre hev hz hA hP hD hS hR0 hap [] rfl)⟩ rfl rfl hl.1 rfl (lv_room (Nat.le_of_ble_eq_true rfl)) dX3_writeTo_25 ⟨Nat.le_of_ble_eq_true rfl, Nat.le_of_ble_eq_true rfl⟩) hP hD hS hA (fun w7 H locs h8 hP hD hS => ?_)
        obtain ⟨g9, rfl, h8⟩ := h8
        try dsimp only at h8
        have hP : va_P E.1 vwCl [(h, .inr (6, [.ref ms, .ref sc, .ref sa, .int (nI (((n + 5 * i) + 1) + 4))])), (ms, aB E 128 g9)] H := hP
        have hD : va_D A [(h, .inr (6, [.ref ms, .ref sc, .ref sa, .int (nI (((n + 5 * i) + 1) + 4))])), (ms, aB E 128 g9)] := hD
        refine lv_iinc (v := nI (i + 1)) (lv' := [(2, .int (nI (i + 1))), (0, .ref o), (1, .ref h)]) hx hb dX3_writeTo_28 hl (k := 0) rfl ((nI_add i 1).trans (congrArg nI (by omega))) (by decide) rfl (fun ls hl => ?_)
        refine lv_goto (tgt := 2) hx hb dX3_writeTo_31 (by decide) ?_
        rw [show (((n + 5 * i) + 1) + 4 : Nat) = n + 5 * (i + 1) from by omega] at hP hD
        have hP : va_P E.1 vwCl [(h, .inr (6, [.ref ms, .ref sc, .ref sa, .int (nI (n + 5 * (i + 1)))])), (ms, aB E 128 g9)] H := hP
        have hD : va_D A [(h, .inr (6, [.ref ms, .ref sc, .ref sa, .int (nI (n + 5 * (i + 1)))])), (ms, aB E 128 g9)] := hD
        exact ih  (i + 1) g9 (by omega) ((ap_step (ap_step (hg) h4 (by simp only [List.length_append, List.length_cons, List.length_nil, rosB_len, delB_len, pthB_len, octB_len, rowH_len, tldB_len, dlgB_len, lstB_len, bL_len, bI]; try omega)) h8 (by simp only [List.length_append, List.length_cons, List.length_nil, rosB_len, delB_len, pthB_len, octB_len, rowH_len, tldB_len, dlgB_len, lstB_len, bL_len, bI]; try omega)).trans (by simp only [rosB, List.append_assoc])) (by omega) _ _ hP hD hS ls (lv_sub hl [0, 1, 2] rfl)
  exact loop2 11 0 f (by omega) (rfl) (by omega) _ _ hP hD hS ls (lv_sub hl [0, 1, 2] rfl)

abbrev pX6_writeTo (E : xE) (h : Nat) (ms : Nat) (sc : Nat) (sa : Nat) (n : Nat) (f : Nat → Int32) (o : Nat) (ra : Nat) (va : Nat) (k : Nat) (fr : Nat → Int32) (fv : Nat → Int32) (w : va_W) : Prop := ∃ (g : Nat → Int32), w = [(h, .inr (6, [.ref ms, .ref sc, .ref sa, .int (nI (n + 1 + 5 * k))])), (ms, aB E 128 g)] ∧ (g = ap f n (tldB k fr fv))
set_option maxHeartbeats 4000000 in
set_option maxRecDepth 100000 in
theorem kX6_writeTo (l : Launch) (E : xE) (h : Nat) (ms : Nat) (sc : Nat) (sa : Nat) (n : Nat) (f : Nat → Int32) (o : Nat) (ra : Nat) (va : Nat) (k : Nat) (fr : Nat → Int32) (fv : Nat → Int32) (hn : n + 36 ≤ 119) (hk : k ≤ 7) : KT l yX6_writeTo wsX6_writeTo 2 43 0 0 E [(h, .inr (6, [.ref ms, .ref sc, .ref sa, .int (nI n)])), (ms, aB E 128 f)] [(o, .inr (7, [.ref ra, .ref va, .int (nI k)])), (ra, aI E 7 fr), (va, aI E 7 fv)] [.ref o, .ref h] (QV E (pX6_writeTo E h ms sc sa n f o ra va k fr fv)) := by
  refine KT.start (cc := cX6_writeTo) (maxL := 3) (ret := none) (by decide) rfl (Nat.le_of_ble_eq_true rfl) ?_
  intro p e s m below meth c A H hx hb hr hlocks hml hts hown hin hP hR0 hD hap hev hz hA hS ls hl
  have hl : lv_has ls 3 [(0, .ref o), (1, .ref h)] := hl
  have hiX6 : ∀ w ∈ wsX60, w ∈ wsX6_writeTo := by decide +kernel
  have hf15 := hts (.fieldLink RX6 15 "SignQuorum$Told" "versions" "[I") (by decide +kernel)
  have hf18 := hts (.fieldLink RX6 18 "SignQuorum$Told" "count" "I") (by decide +kernel)
  have hf9 := hts (.fieldLink RX6 9 "SignQuorum$Told" "roles" "[I") (by decide +kernel)
  refine lv_aload_n hx hb dX6_writeTo_0 rfl (lv_at hl 1 rfl) ?_
  refine lv_aload_n hx hb dX6_writeTo_1 rfl (lv_at hl 0 rfl) ?_
  refine va_get (D := E.1) (ci := 7) (v := .int (nI k)) (C := RX6) (T := TX6) (N := 3) hx hb hts hiX6 hown hev.1 (xro hR0 hap hS) 0 rfl rfl 2 (by decide) hf18 (fun _ h9 => h9) rfl dX6_writeTo_2 ?_
  have hP := hP.sub (ws' := [(h, .inr (6, [.ref ms, .ref sc, .ref sa, .int (nI n)])), (ms, aB E 128 f)] ++ []) [0, 1] rfl
  have hD := hD.sub (ws' := [(h, .inr (6, [.ref ms, .ref sc, .ref sa, .int (nI n)])), (ms, aB E 128 f)] ++ []) [0, 1] (by decide) rfl
  refine xcv (va_runV (As := [.int (nI k)]) (rest := []) ⟨hx, hb, hml, hown, hts⟩ (kX5_putByte l E h ms sc sa n f (nI k) (by first | assumption | omega) H.size) (cwV 1 hts gX6_writeTo_X5_putByte rfl rfl rfl (by decide +kernel) ⟨Nat.le_of_ble_eq_true rfl, Nat.le_of_ble_eq_true rfl⟩) ⟨CP.blind, (va_recv hev.1 hP.left (ci := 6) (q0 := 0) rfl rfl), (xpre hev hz hA hP hD hS hR0 hap [] rfl)⟩ rfl rfl hl.1 rfl (lv_room (Nat.le_of_ble_eq_true rfl)) dX6_writeTo_5 ⟨Nat.le_of_ble_eq_true rfl, Nat.le_of_ble_eq_true rfl⟩) hP hD hS hA (fun w2 H locs h3 hP hD hS => ?_)
  obtain ⟨g4, rfl, h3⟩ := h3
  try dsimp only at h3
  have hP : va_P E.1 vwCl [(h, .inr (6, [.ref ms, .ref sc, .ref sa, .int (nI (n + 1))])), (ms, aB E 128 g4)] H := hP
  have hD : va_D A [(h, .inr (6, [.ref ms, .ref sc, .ref sa, .int (nI (n + 1))])), (ms, aB E 128 g4)] := hD
  refine lv_iconst (v := 0) hx hb dX6_writeTo_8 (by decide) ?_
  refine lv_istore_n (lv' := [(2, .int 0), (0, .ref o), (1, .ref h)]) hx hb dX6_writeTo_9 rfl hl (by decide) rfl (fun ls hl => ?_)
  have loop10 : ∀ (fz : Nat) (i : Nat) (g : Nat → Int32), (i ≤ k) → (g = ap f n ([by8 (nI k)] ++ rosB fr fv i)) → (k - i < fz) → ∀ (H : Heap) (locs : List Loc), va_P E.1 vwCl [(h, .inr (6, [.ref ms, .ref sc, .ref sa, .int (nI (n + 1 + 5 * i))])), (ms, aB E 128 g)] H → va_D A [(h, .inr (6, [.ref ms, .ref sc, .ref sa, .int (nI (n + 1 + 5 * i))])), (ms, aB E 128 g)] → va_S A s.heap H locs → ∀ ls : Array Slot, lv_has ls 3 [(2, .int (nI i)), (0, .ref o), (1, .ref h)] → W p l e ({ frames := 2, cells := 0, slots := 0, locals := 43 } : Room) s m ([.ref o, .ref h] : List Value).toArray below meth c H locs 0 0 (MQ below (QV E (pX6_writeTo E h ms sc sa n f o ra va k fr fv) A) ([.ref o, .ref h] : List Value).toArray s 0 0 A) (F0 m 10 ls []) := by
    intro fz
    induction fz with
    | zero =>
      intro i g hi hg hfuel
      exact absurd hfuel (by omega)
    | succ fz ih =>
      intro i g hi hg hfuel H locs hP hD hS ls hl
      refine lv_iload_n hx hb dX6_writeTo_10 rfl (lv_at hl 0 rfl) ?_
      refine lv_aload_n hx hb dX6_writeTo_11 rfl (lv_at hl 1 rfl) ?_
      refine va_get (D := E.1) (ci := 7) (v := .int (nI k)) (C := RX6) (T := TX6) (N := 3) hx hb hts hiX6 hown hev.1 (xro hR0 hap hS) 0 rfl rfl 2 (by decide) hf18 (fun _ h9 => h9) rfl dX6_writeTo_12 ?_
      refine lv_icmp_ge (tgt := 44) hx hb dX6_writeTo_15 (by decide) (fun c5 => ?_) (fun c5 => ?_)
      · skip
        have kc5 : k ≤ i := (nI_leI (a := k) (b := i) (by omega) (by omega)).mp c5
        have hin9 : i = k := by omega
        rw [hin9] at hP hD hg
        refine xrv hx hb hr hlocks hP hD hS ⟨g, rfl, ?_⟩ dX6_writeTo_44
        exact hg
      · skip
        have kc5 : ¬ k ≤ i := fun h9 => c5 ((nI_leI (a := k) (b := i) (by omega) (by omega)).mpr h9)
        refine lv_aload_n hx hb dX6_writeTo_18 rfl (lv_at hl 2 rfl) ?_
        refine lv_aload_n hx hb dX6_writeTo_19 rfl (lv_at hl 1 rfl) ?_
        refine va_get (D := E.1) (ci := 7) (v := .ref ra) (C := RX6) (T := TX6) (N := 3) hx hb hts hiX6 hown hev.1 (xro hR0 hap hS) 0 rfl rfl 0 (by decide) hf9 (fun _ h9 => h9) rfl dX6_writeTo_20 ?_
        refine lv_iload_n hx hb dX6_writeTo_23 rfl (lv_at hl 0 rfl) ?_
        refine xiald (k := (i)) hx hb hev.1 (xro hR0 hap hS) 1 1 rfl rfl (by omega) (by decide) dX6_writeTo_24 ?_
        have hP := hP.sub (ws' := [(h, .inr (6, [.ref ms, .ref sc, .ref sa, .int (nI (n + 1 + 5 * i))])), (ms, aB E 128 g)] ++ []) [0, 1] rfl
        have hD := hD.sub (ws' := [(h, .inr (6, [.ref ms, .ref sc, .ref sa, .int (nI (n + 1 + 5 * i))])), (ms, aB E 128 g)] ++ []) [0, 1] (by decide) rfl
        refine xcv (va_runV (As := [.int (fr i)]) (rest := []) ⟨hx, hb, hml, hown, hts⟩ (kX5_putByte l E h ms sc sa (n + 1 + 5 * i) g (fr i) (by first | assumption | omega) H.size) (cwV 1 hts gX6_writeTo_X5_putByte rfl rfl rfl (by decide +kernel) ⟨Nat.le_of_ble_eq_true rfl, Nat.le_of_ble_eq_true rfl⟩) ⟨CP.blind, (va_recv hev.1 hP.left (ci := 6) (q0 := 0) rfl rfl), (xpre hev hz hA hP hD hS hR0 hap [] rfl)⟩ rfl rfl hl.1 rfl (lv_room (Nat.le_of_ble_eq_true rfl)) dX6_writeTo_25 ⟨Nat.le_of_ble_eq_true rfl, Nat.le_of_ble_eq_true rfl⟩) hP hD hS hA (fun w7 H locs h8 hP hD hS => ?_)
        obtain ⟨g9, rfl, h8⟩ := h8
        try dsimp only at h8
        have hP : va_P E.1 vwCl [(h, .inr (6, [.ref ms, .ref sc, .ref sa, .int (nI ((n + 1 + 5 * i) + 1))])), (ms, aB E 128 g9)] H := hP
        have hD : va_D A [(h, .inr (6, [.ref ms, .ref sc, .ref sa, .int (nI ((n + 1 + 5 * i) + 1))])), (ms, aB E 128 g9)] := hD
        refine lv_aload_n hx hb dX6_writeTo_28 rfl (lv_at hl 2 rfl) ?_
        refine lv_aload_n hx hb dX6_writeTo_29 rfl (lv_at hl 1 rfl) ?_
        refine va_get (D := E.1) (ci := 7) (v := .ref va) (C := RX6) (T := TX6) (N := 3) hx hb hts hiX6 hown hev.1 (xro hR0 hap hS) 0 rfl rfl 1 (by decide) hf15 (fun _ h9 => h9) rfl dX6_writeTo_30 ?_
        refine lv_iload_n hx hb dX6_writeTo_33 rfl (lv_at hl 0 rfl) ?_
        refine xiald (k := (i)) hx hb hev.1 (xro hR0 hap hS) 2 1 rfl rfl (by omega) (by decide) dX6_writeTo_34 ?_
        have hP := hP.sub (ws' := [(h, .inr (6, [.ref ms, .ref sc, .ref sa, .int (nI ((n + 1 + 5 * i) + 1))])), (ms, aB E 128 g9)] ++ []) [0, 1] rfl
        have hD := hD.sub (ws' := [(h, .inr (6, [.ref ms, .ref sc, .ref sa, .int (nI ((n + 1 + 5 * i) + 1))])), (ms, aB E 128 g9)] ++ []) [0, 1] (by decide) rfl
        refine xcv (va_runV (As := [.int (fv i)]) (rest := []) ⟨hx, hb, hml, hown, hts⟩ (kX5_putInt l E h ms sc sa ((n + 1 + 5 * i) + 1) g9 (fv i) (by first | assumption | omega) H.size) (cwV 1 hts gX6_writeTo_X5_putInt rfl rfl rfl (by decide +kernel) ⟨Nat.le_of_ble_eq_true rfl, Nat.le_of_ble_eq_true rfl⟩) ⟨CP.blind, (va_recv hev.1 hP.left (ci := 6) (q0 := 0) rfl rfl), (xpre hev hz hA hP hD hS hR0 hap [] rfl)⟩ rfl rfl hl.1 rfl (lv_room (Nat.le_of_ble_eq_true rfl)) dX6_writeTo_35 ⟨Nat.le_of_ble_eq_true rfl, Nat.le_of_ble_eq_true rfl⟩) hP hD hS hA (fun w11 H locs h12 hP hD hS => ?_)
        obtain ⟨g13, rfl, h12⟩ := h12
        try dsimp only at h12
        have hP : va_P E.1 vwCl [(h, .inr (6, [.ref ms, .ref sc, .ref sa, .int (nI (((n + 1 + 5 * i) + 1) + 4))])), (ms, aB E 128 g13)] H := hP
        have hD : va_D A [(h, .inr (6, [.ref ms, .ref sc, .ref sa, .int (nI (((n + 1 + 5 * i) + 1) + 4))])), (ms, aB E 128 g13)] := hD
        refine lv_iinc (v := nI (i + 1)) (lv' := [(2, .int (nI (i + 1))), (0, .ref o), (1, .ref h)]) hx hb dX6_writeTo_38 hl (k := 0) rfl ((nI_add i 1).trans (congrArg nI (by omega))) (by decide) rfl (fun ls hl => ?_)
        refine lv_goto (tgt := 10) hx hb dX6_writeTo_41 (by decide) ?_
        rw [show (((n + 1 + 5 * i) + 1) + 4 : Nat) = n + 1 + 5 * (i + 1) from by omega] at hP hD
        have hP : va_P E.1 vwCl [(h, .inr (6, [.ref ms, .ref sc, .ref sa, .int (nI (n + 1 + 5 * (i + 1)))])), (ms, aB E 128 g13)] H := hP
        have hD : va_D A [(h, .inr (6, [.ref ms, .ref sc, .ref sa, .int (nI (n + 1 + 5 * (i + 1)))])), (ms, aB E 128 g13)] := hD
        exact ih  (i + 1) g13 (by omega) ((ap_step (ap_step (hg) h8 (by simp only [List.length_append, List.length_cons, List.length_nil, rosB_len, delB_len, pthB_len, octB_len, rowH_len, tldB_len, dlgB_len, lstB_len, bL_len, bI]; try omega)) h12 (by simp only [List.length_append, List.length_cons, List.length_nil, rosB_len, delB_len, pthB_len, octB_len, rowH_len, tldB_len, dlgB_len, lstB_len, bL_len, bI]; try omega)).trans (by simp only [rosB, List.append_assoc])) (by omega) _ _ hP hD hS ls (lv_sub hl [0, 1, 2] rfl)
  exact loop10 (k + 1) 0 g4 (by omega) (by rw [h3]; simp only [rosB, List.append_nil]) (by omega) _ _ hP hD hS ls (lv_sub hl [0, 1, 2] rfl)

abbrev pX1_writeTo (E : xE) (h : Nat) (ms : Nat) (sc : Nat) (sa : Nat) (n : Nat) (f : Nat → Int32) (o : Nat) (pa : Nat) (ta : Nat) (ea : Nat) (k : Nat) (fp : Nat → Int32) (ft : Nat → Int32) (fe : Nat → Int32) (w : va_W) : Prop := ∃ (g : Nat → Int32), w = [(h, .inr (6, [.ref ms, .ref sc, .ref sa, .int (nI (n + 1 + 6 * k))])), (ms, aB E 128 g)] ∧ (g = ap f n (dlgB k fp ft fe))
set_option maxHeartbeats 4000000 in
set_option maxRecDepth 100000 in
theorem kX1_writeTo (l : Launch) (E : xE) (h : Nat) (ms : Nat) (sc : Nat) (sa : Nat) (n : Nat) (f : Nat → Int32) (o : Nat) (pa : Nat) (ta : Nat) (ea : Nat) (k : Nat) (fp : Nat → Int32) (ft : Nat → Int32) (fe : Nat → Int32) (hn : n + 37 ≤ 119) (hk : k ≤ 6) : KT l yX1_writeTo wsX1_writeTo 2 43 0 0 E [(h, .inr (6, [.ref ms, .ref sc, .ref sa, .int (nI n)])), (ms, aB E 128 f)] [(o, .inr (2, [.ref pa, .ref ta, .ref ea, .int (nI k)])), (pa, aI E 6 fp), (ta, aI E 6 ft), (ea, aZ E 6 fe)] [.ref o, .ref h] (QV E (pX1_writeTo E h ms sc sa n f o pa ta ea k fp ft fe)) := by
  refine KT.start (cc := cX1_writeTo) (maxL := 3) (ret := none) (by decide) rfl (Nat.le_of_ble_eq_true rfl) ?_
  intro p e s m below meth c A H hx hb hr hlocks hml hts hown hin hP hR0 hD hap hev hz hA hS ls hl
  have hl : lv_has ls 3 [(0, .ref o), (1, .ref h)] := hl
  have hiX1 : ∀ w ∈ wsX10, w ∈ wsX1_writeTo := by decide +kernel
  have hf15 := hts (.fieldLink RX1 15 "SignQuorum$Delegations" "targets" "[I") (by decide +kernel)
  have hf18 := hts (.fieldLink RX1 18 "SignQuorum$Delegations" "ending" "[Z") (by decide +kernel)
  have hf22 := hts (.fieldLink RX1 22 "SignQuorum$Delegations" "count" "I") (by decide +kernel)
  have hf9 := hts (.fieldLink RX1 9 "SignQuorum$Delegations" "patterns" "[I") (by decide +kernel)
  refine lv_aload_n hx hb dX1_writeTo_0 rfl (lv_at hl 1 rfl) ?_
  refine lv_aload_n hx hb dX1_writeTo_1 rfl (lv_at hl 0 rfl) ?_
  refine va_get (D := E.1) (ci := 2) (v := .int (nI k)) (C := RX1) (T := TX1) (N := 4) hx hb hts hiX1 hown hev.1 (xro hR0 hap hS) 0 rfl rfl 3 (by decide) hf22 (fun _ h9 => h9) rfl dX1_writeTo_2 ?_
  have hP := hP.sub (ws' := [(h, .inr (6, [.ref ms, .ref sc, .ref sa, .int (nI n)])), (ms, aB E 128 f)] ++ []) [0, 1] rfl
  have hD := hD.sub (ws' := [(h, .inr (6, [.ref ms, .ref sc, .ref sa, .int (nI n)])), (ms, aB E 128 f)] ++ []) [0, 1] (by decide) rfl
  refine xcv (va_runV (As := [.int (nI k)]) (rest := []) ⟨hx, hb, hml, hown, hts⟩ (kX5_putByte l E h ms sc sa n f (nI k) (by first | assumption | omega) H.size) (cwV 1 hts gX1_writeTo_X5_putByte rfl rfl rfl (by decide +kernel) ⟨Nat.le_of_ble_eq_true rfl, Nat.le_of_ble_eq_true rfl⟩) ⟨CP.blind, (va_recv hev.1 hP.left (ci := 6) (q0 := 0) rfl rfl), (xpre hev hz hA hP hD hS hR0 hap [] rfl)⟩ rfl rfl hl.1 rfl (lv_room (Nat.le_of_ble_eq_true rfl)) dX1_writeTo_5 ⟨Nat.le_of_ble_eq_true rfl, Nat.le_of_ble_eq_true rfl⟩) hP hD hS hA (fun w2 H locs h3 hP hD hS => ?_)
  obtain ⟨g4, rfl, h3⟩ := h3
  try dsimp only at h3
  have hP : va_P E.1 vwCl [(h, .inr (6, [.ref ms, .ref sc, .ref sa, .int (nI (n + 1))])), (ms, aB E 128 g4)] H := hP
  have hD : va_D A [(h, .inr (6, [.ref ms, .ref sc, .ref sa, .int (nI (n + 1))])), (ms, aB E 128 g4)] := hD
  refine lv_iconst (v := 0) hx hb dX1_writeTo_8 (by decide) ?_
  refine lv_istore_n (lv' := [(2, .int 0), (0, .ref o), (1, .ref h)]) hx hb dX1_writeTo_9 rfl hl (by decide) rfl (fun ls hl => ?_)
  have loop10 : ∀ (fz : Nat) (i : Nat) (g : Nat → Int32), (i ≤ k) → (g = ap f n ([by8 (nI k)] ++ delB fp ft fe i)) → (k - i < fz) → ∀ (H : Heap) (locs : List Loc), va_P E.1 vwCl [(h, .inr (6, [.ref ms, .ref sc, .ref sa, .int (nI (n + 1 + 6 * i))])), (ms, aB E 128 g)] H → va_D A [(h, .inr (6, [.ref ms, .ref sc, .ref sa, .int (nI (n + 1 + 6 * i))])), (ms, aB E 128 g)] → va_S A s.heap H locs → ∀ ls : Array Slot, lv_has ls 3 [(2, .int (nI i)), (0, .ref o), (1, .ref h)] → W p l e ({ frames := 2, cells := 0, slots := 0, locals := 43 } : Room) s m ([.ref o, .ref h] : List Value).toArray below meth c H locs 0 0 (MQ below (QV E (pX1_writeTo E h ms sc sa n f o pa ta ea k fp ft fe) A) ([.ref o, .ref h] : List Value).toArray s 0 0 A) (F0 m 10 ls []) := by
    intro fz
    induction fz with
    | zero =>
      intro i g hi hg hfuel
      exact absurd hfuel (by omega)
    | succ fz ih =>
      intro i g hi hg hfuel H locs hP hD hS ls hl
      refine lv_iload_n hx hb dX1_writeTo_10 rfl (lv_at hl 0 rfl) ?_
      refine lv_aload_n hx hb dX1_writeTo_11 rfl (lv_at hl 1 rfl) ?_
      refine va_get (D := E.1) (ci := 2) (v := .int (nI k)) (C := RX1) (T := TX1) (N := 4) hx hb hts hiX1 hown hev.1 (xro hR0 hap hS) 0 rfl rfl 3 (by decide) hf22 (fun _ h9 => h9) rfl dX1_writeTo_12 ?_
      refine lv_icmp_ge (tgt := 62) hx hb dX1_writeTo_15 (by decide) (fun c5 => ?_) (fun c5 => ?_)
      · skip
        have kc5 : k ≤ i := (nI_leI (a := k) (b := i) (by omega) (by omega)).mp c5
        have hin9 : i = k := by omega
        rw [hin9] at hP hD hg
        refine xrv hx hb hr hlocks hP hD hS ⟨g, rfl, ?_⟩ dX1_writeTo_62
        exact hg
      · skip
        have kc5 : ¬ k ≤ i := fun h9 => c5 ((nI_leI (a := k) (b := i) (by omega) (by omega)).mpr h9)
        refine lv_aload_n hx hb dX1_writeTo_18 rfl (lv_at hl 2 rfl) ?_
        refine lv_aload_n hx hb dX1_writeTo_19 rfl (lv_at hl 1 rfl) ?_
        refine va_get (D := E.1) (ci := 2) (v := .ref pa) (C := RX1) (T := TX1) (N := 4) hx hb hts hiX1 hown hev.1 (xro hR0 hap hS) 0 rfl rfl 0 (by decide) hf9 (fun _ h9 => h9) rfl dX1_writeTo_20 ?_
        refine lv_iload_n hx hb dX1_writeTo_23 rfl (lv_at hl 0 rfl) ?_
        refine xiald (k := (i)) hx hb hev.1 (xro hR0 hap hS) 1 1 rfl rfl (by omega) (by decide) dX1_writeTo_24 ?_
        have hP := hP.sub (ws' := [(h, .inr (6, [.ref ms, .ref sc, .ref sa, .int (nI (n + 1 + 6 * i))])), (ms, aB E 128 g)] ++ []) [0, 1] rfl
        have hD := hD.sub (ws' := [(h, .inr (6, [.ref ms, .ref sc, .ref sa, .int (nI (n + 1 + 6 * i))])), (ms, aB E 128 g)] ++ []) [0, 1] (by decide) rfl
        refine xcv (va_runV (As := [.int (fp i)]) (rest := []) ⟨hx, hb, hml, hown, hts⟩ (kX5_putInt l E h ms sc sa (n + 1 + 6 * i) g (fp i) (by first | assumption | omega) H.size) (cwV 1 hts gX1_writeTo_X5_putInt rfl rfl rfl (by decide +kernel) ⟨Nat.le_of_ble_eq_true rfl, Nat.le_of_ble_eq_true rfl⟩) ⟨CP.blind, (va_recv hev.1 hP.left (ci := 6) (q0 := 0) rfl rfl), (xpre hev hz hA hP hD hS hR0 hap [] rfl)⟩ rfl rfl hl.1 rfl (lv_room (Nat.le_of_ble_eq_true rfl)) dX1_writeTo_25 ⟨Nat.le_of_ble_eq_true rfl, Nat.le_of_ble_eq_true rfl⟩) hP hD hS hA (fun w7 H locs h8 hP hD hS => ?_)
        obtain ⟨g9, rfl, h8⟩ := h8
        try dsimp only at h8
        have hP : va_P E.1 vwCl [(h, .inr (6, [.ref ms, .ref sc, .ref sa, .int (nI ((n + 1 + 6 * i) + 4))])), (ms, aB E 128 g9)] H := hP
        have hD : va_D A [(h, .inr (6, [.ref ms, .ref sc, .ref sa, .int (nI ((n + 1 + 6 * i) + 4))])), (ms, aB E 128 g9)] := hD
        refine lv_aload_n hx hb dX1_writeTo_28 rfl (lv_at hl 2 rfl) ?_
        refine lv_aload_n hx hb dX1_writeTo_29 rfl (lv_at hl 1 rfl) ?_
        refine va_get (D := E.1) (ci := 2) (v := .ref ta) (C := RX1) (T := TX1) (N := 4) hx hb hts hiX1 hown hev.1 (xro hR0 hap hS) 0 rfl rfl 1 (by decide) hf15 (fun _ h9 => h9) rfl dX1_writeTo_30 ?_
        refine lv_iload_n hx hb dX1_writeTo_33 rfl (lv_at hl 0 rfl) ?_
        refine xiald (k := (i)) hx hb hev.1 (xro hR0 hap hS) 2 1 rfl rfl (by omega) (by decide) dX1_writeTo_34 ?_
        have hP := hP.sub (ws' := [(h, .inr (6, [.ref ms, .ref sc, .ref sa, .int (nI ((n + 1 + 6 * i) + 4))])), (ms, aB E 128 g9)] ++ []) [0, 1] rfl
        have hD := hD.sub (ws' := [(h, .inr (6, [.ref ms, .ref sc, .ref sa, .int (nI ((n + 1 + 6 * i) + 4))])), (ms, aB E 128 g9)] ++ []) [0, 1] (by decide) rfl
        refine xcv (va_runV (As := [.int (ft i)]) (rest := []) ⟨hx, hb, hml, hown, hts⟩ (kX5_putByte l E h ms sc sa ((n + 1 + 6 * i) + 4) g9 (ft i) (by first | assumption | omega) H.size) (cwV 1 hts gX1_writeTo_X5_putByte rfl rfl rfl (by decide +kernel) ⟨Nat.le_of_ble_eq_true rfl, Nat.le_of_ble_eq_true rfl⟩) ⟨CP.blind, (va_recv hev.1 hP.left (ci := 6) (q0 := 0) rfl rfl), (xpre hev hz hA hP hD hS hR0 hap [] rfl)⟩ rfl rfl hl.1 rfl (lv_room (Nat.le_of_ble_eq_true rfl)) dX1_writeTo_35 ⟨Nat.le_of_ble_eq_true rfl, Nat.le_of_ble_eq_true rfl⟩) hP hD hS hA (fun w11 H locs h12 hP hD hS => ?_)
        obtain ⟨g13, rfl, h12⟩ := h12
        try dsimp only at h12
        have hP : va_P E.1 vwCl [(h, .inr (6, [.ref ms, .ref sc, .ref sa, .int (nI (((n + 1 + 6 * i) + 4) + 1))])), (ms, aB E 128 g13)] H := hP
        have hD : va_D A [(h, .inr (6, [.ref ms, .ref sc, .ref sa, .int (nI (((n + 1 + 6 * i) + 4) + 1))])), (ms, aB E 128 g13)] := hD
        refine lv_aload_n hx hb dX1_writeTo_38 rfl (lv_at hl 2 rfl) ?_
        refine lv_aload_n hx hb dX1_writeTo_39 rfl (lv_at hl 1 rfl) ?_
        refine va_get (D := E.1) (ci := 2) (v := .ref ea) (C := RX1) (T := TX1) (N := 4) hx hb hts hiX1 hown hev.1 (xro hR0 hap hS) 0 rfl rfl 2 (by decide) hf18 (fun _ h9 => h9) rfl dX1_writeTo_40 ?_
        refine lv_iload_n hx hb dX1_writeTo_43 rfl (lv_at hl 0 rfl) ?_
        refine xzald (k := (i)) hx hb hev.1 (xro hR0 hap hS) 3 3 rfl rfl (by omega) (by decide) dX1_writeTo_44 ?_
        refine lv_if_eq (tgt := 52) hx hb dX1_writeTo_45 (by decide) (fun c14 => ?_) (fun c14 => ?_)
        · skip
          refine lv_iconst (v := 0) hx hb dX1_writeTo_52 (by decide) ?_
          refine xtop (y := if fe i = 0 then 0 else 1) ((if_pos c14).symm) ?_
          have hP := hP.sub (ws' := [(h, .inr (6, [.ref ms, .ref sc, .ref sa, .int (nI (((n + 1 + 6 * i) + 4) + 1))])), (ms, aB E 128 g13)] ++ []) [0, 1] rfl
          have hD := hD.sub (ws' := [(h, .inr (6, [.ref ms, .ref sc, .ref sa, .int (nI (((n + 1 + 6 * i) + 4) + 1))])), (ms, aB E 128 g13)] ++ []) [0, 1] (by decide) rfl
          refine xcv (va_runV (As := [.int (if fe i = 0 then 0 else 1)]) (rest := []) ⟨hx, hb, hml, hown, hts⟩ (kX5_putByte l E h ms sc sa (((n + 1 + 6 * i) + 4) + 1) g13 (if fe i = 0 then 0 else 1) (by first | assumption | omega) H.size) (cwV 1 hts gX1_writeTo_X5_putByte rfl rfl rfl (by decide +kernel) ⟨Nat.le_of_ble_eq_true rfl, Nat.le_of_ble_eq_true rfl⟩) ⟨CP.blind, (va_recv hev.1 hP.left (ci := 6) (q0 := 0) rfl rfl), (xpre hev hz hA hP hD hS hR0 hap [] rfl)⟩ rfl rfl hl.1 rfl (lv_room (Nat.le_of_ble_eq_true rfl)) dX1_writeTo_53 ⟨Nat.le_of_ble_eq_true rfl, Nat.le_of_ble_eq_true rfl⟩) hP hD hS hA (fun w16 H locs h17 hP hD hS => ?_)
          obtain ⟨g18, rfl, h17⟩ := h17
          try dsimp only at h17
          have hP : va_P E.1 vwCl [(h, .inr (6, [.ref ms, .ref sc, .ref sa, .int (nI ((((n + 1 + 6 * i) + 4) + 1) + 1))])), (ms, aB E 128 g18)] H := hP
          have hD : va_D A [(h, .inr (6, [.ref ms, .ref sc, .ref sa, .int (nI ((((n + 1 + 6 * i) + 4) + 1) + 1))])), (ms, aB E 128 g18)] := hD
          refine lv_iinc (v := nI (i + 1)) (lv' := [(2, .int (nI (i + 1))), (0, .ref o), (1, .ref h)]) hx hb dX1_writeTo_56 hl (k := 0) rfl ((nI_add i 1).trans (congrArg nI (by omega))) (by decide) rfl (fun ls hl => ?_)
          refine lv_goto (tgt := 10) hx hb dX1_writeTo_59 (by decide) ?_
          rw [show ((((n + 1 + 6 * i) + 4) + 1) + 1 : Nat) = n + 1 + 6 * (i + 1) from by omega] at hP hD
          have hP : va_P E.1 vwCl [(h, .inr (6, [.ref ms, .ref sc, .ref sa, .int (nI (n + 1 + 6 * (i + 1)))])), (ms, aB E 128 g18)] H := hP
          have hD : va_D A [(h, .inr (6, [.ref ms, .ref sc, .ref sa, .int (nI (n + 1 + 6 * (i + 1)))])), (ms, aB E 128 g18)] := hD
          exact ih  (i + 1) g18 (by omega) ((ap_step (ap_step (ap_step (hg) h8 (by simp only [List.length_append, List.length_cons, List.length_nil, rosB_len, delB_len, pthB_len, octB_len, rowH_len, tldB_len, dlgB_len, lstB_len, bL_len, bI]; try omega)) h12 (by simp only [List.length_append, List.length_cons, List.length_nil, rosB_len, delB_len, pthB_len, octB_len, rowH_len, tldB_len, dlgB_len, lstB_len, bL_len, bI]; try omega)) h17 (by simp only [List.length_append, List.length_cons, List.length_nil, rosB_len, delB_len, pthB_len, octB_len, rowH_len, tldB_len, dlgB_len, lstB_len, bL_len, bI]; try omega)).trans (by simp only [delB, List.append_assoc])) (by omega) _ _ hP hD hS ls (lv_sub hl [0, 1, 2] rfl)
        · skip
          refine lv_iconst (v := 1) hx hb dX1_writeTo_48 (by decide) ?_
          refine lv_goto (tgt := 53) hx hb dX1_writeTo_49 (by decide) ?_
          refine xtop (y := if fe i = 0 then 0 else 1) ((if_neg c14).symm) ?_
          have hP := hP.sub (ws' := [(h, .inr (6, [.ref ms, .ref sc, .ref sa, .int (nI (((n + 1 + 6 * i) + 4) + 1))])), (ms, aB E 128 g13)] ++ []) [0, 1] rfl
          have hD := hD.sub (ws' := [(h, .inr (6, [.ref ms, .ref sc, .ref sa, .int (nI (((n + 1 + 6 * i) + 4) + 1))])), (ms, aB E 128 g13)] ++ []) [0, 1] (by decide) rfl
          refine xcv (va_runV (As := [.int (if fe i = 0 then 0 else 1)]) (rest := []) ⟨hx, hb, hml, hown, hts⟩ (kX5_putByte l E h ms sc sa (((n + 1 + 6 * i) + 4) + 1) g13 (if fe i = 0 then 0 else 1) (by first | assumption | omega) H.size) (cwV 1 hts gX1_writeTo_X5_putByte rfl rfl rfl (by decide +kernel) ⟨Nat.le_of_ble_eq_true rfl, Nat.le_of_ble_eq_true rfl⟩) ⟨CP.blind, (va_recv hev.1 hP.left (ci := 6) (q0 := 0) rfl rfl), (xpre hev hz hA hP hD hS hR0 hap [] rfl)⟩ rfl rfl hl.1 rfl (lv_room (Nat.le_of_ble_eq_true rfl)) dX1_writeTo_53 ⟨Nat.le_of_ble_eq_true rfl, Nat.le_of_ble_eq_true rfl⟩) hP hD hS hA (fun w20 H locs h21 hP hD hS => ?_)
          obtain ⟨g22, rfl, h21⟩ := h21
          try dsimp only at h21
          have hP : va_P E.1 vwCl [(h, .inr (6, [.ref ms, .ref sc, .ref sa, .int (nI ((((n + 1 + 6 * i) + 4) + 1) + 1))])), (ms, aB E 128 g22)] H := hP
          have hD : va_D A [(h, .inr (6, [.ref ms, .ref sc, .ref sa, .int (nI ((((n + 1 + 6 * i) + 4) + 1) + 1))])), (ms, aB E 128 g22)] := hD
          refine lv_iinc (v := nI (i + 1)) (lv' := [(2, .int (nI (i + 1))), (0, .ref o), (1, .ref h)]) hx hb dX1_writeTo_56 hl (k := 0) rfl ((nI_add i 1).trans (congrArg nI (by omega))) (by decide) rfl (fun ls hl => ?_)
          refine lv_goto (tgt := 10) hx hb dX1_writeTo_59 (by decide) ?_
          rw [show ((((n + 1 + 6 * i) + 4) + 1) + 1 : Nat) = n + 1 + 6 * (i + 1) from by omega] at hP hD
          have hP : va_P E.1 vwCl [(h, .inr (6, [.ref ms, .ref sc, .ref sa, .int (nI (n + 1 + 6 * (i + 1)))])), (ms, aB E 128 g22)] H := hP
          have hD : va_D A [(h, .inr (6, [.ref ms, .ref sc, .ref sa, .int (nI (n + 1 + 6 * (i + 1)))])), (ms, aB E 128 g22)] := hD
          exact ih  (i + 1) g22 (by omega) ((ap_step (ap_step (ap_step (hg) h8 (by simp only [List.length_append, List.length_cons, List.length_nil, rosB_len, delB_len, pthB_len, octB_len, rowH_len, tldB_len, dlgB_len, lstB_len, bL_len, bI]; try omega)) h12 (by simp only [List.length_append, List.length_cons, List.length_nil, rosB_len, delB_len, pthB_len, octB_len, rowH_len, tldB_len, dlgB_len, lstB_len, bL_len, bI]; try omega)) h21 (by simp only [List.length_append, List.length_cons, List.length_nil, rosB_len, delB_len, pthB_len, octB_len, rowH_len, tldB_len, dlgB_len, lstB_len, bL_len, bI]; try omega)).trans (by simp only [delB, List.append_assoc])) (by omega) _ _ hP hD hS ls (lv_sub hl [0, 1, 2] rfl)
  exact loop10 (k + 1) 0 g4 (by omega) (by rw [h3]; simp only [delB, List.append_nil]) (by omega) _ _ hP hD hS ls (lv_sub hl [0, 1, 2] rfl)

abbrev pX4_writePathsTo (E : xE) (h : Nat) (ms : Nat) (sc : Nat) (sa : Nat) (n : Nat) (f : Nat → Int32) (w0 : Nat) (nu : Int32) (role : Int32) (ver : Int32) (unt : Int64) (oa : Nat) (oc : Nat) (qo : Nat) (tq : Nat) (dq : Nat) (ha : Nat) (pn : Nat) (sg : Int32) (rk : Int32) (fh : Nat → Int32) (w : va_W) : Prop := ∃ (g : Nat → Int32), w = [(h, .inr (6, [.ref ms, .ref sc, .ref sa, .int (nI (n + 1 + 4 * pn))])), (ms, aB E 128 g)] ∧ (g = ap f n (lstB pn fh))
set_option maxHeartbeats 4000000 in
set_option maxRecDepth 100000 in
theorem kX4_writePathsTo (l : Launch) (E : xE) (h : Nat) (ms : Nat) (sc : Nat) (sa : Nat) (n : Nat) (f : Nat → Int32) (w0 : Nat) (nu : Int32) (role : Int32) (ver : Int32) (unt : Int64) (oa : Nat) (oc : Nat) (qo : Nat) (tq : Nat) (dq : Nat) (ha : Nat) (pn : Nat) (sg : Int32) (rk : Int32) (fh : Nat → Int32) (hn : n + 25 ≤ 119) (hk : pn ≤ 6) : KT l yX4_writePathsTo wsX4_writePathsTo 2 43 0 0 E [(h, .inr (6, [.ref ms, .ref sc, .ref sa, .int (nI n)])), (ms, aB E 128 f)] [(w0, .inr (5, [.int nu, .int role, .int ver, .long unt, .ref oa, .int (nI oc), .ref qo, .ref tq, .ref dq, .ref ha, .int (nI pn), .int sg, .int rk])), (ha, aI E 6 fh)] [.ref w0, .ref h] (QV E (pX4_writePathsTo E h ms sc sa n f w0 nu role ver unt oa oc qo tq dq ha pn sg rk fh)) := by
  refine KT.start (cc := cX4_writePathsTo) (maxL := 3) (ret := none) (by decide) rfl (Nat.le_of_ble_eq_true rfl) ?_
  intro p e s m below meth c A H hx hb hr hlocks hml hts hown hin hP hR0 hD hap hev hz hA hS ls hl
  have hl : lv_has ls 3 [(0, .ref w0), (1, .ref h)] := hl
  have hiX4 : ∀ w ∈ wsX40, w ∈ wsX4_writePathsTo := by decide +kernel
  have hf40 := hts (.fieldLink RX4 40 "SignQuorum$Row" "paths" "[I") (by decide +kernel)
  have hf44 := hts (.fieldLink RX4 44 "SignQuorum$Row" "pathCount" "I") (by decide +kernel)
  refine lv_aload_n hx hb dX4_writePathsTo_0 rfl (lv_at hl 1 rfl) ?_
  refine lv_aload_n hx hb dX4_writePathsTo_1 rfl (lv_at hl 0 rfl) ?_
  refine va_get (D := E.1) (ci := 5) (v := .int (nI pn)) (C := RX4) (T := TX4) (N := 13) hx hb hts hiX4 hown hev.1 (xro hR0 hap hS) 0 rfl rfl 10 (by decide) hf44 (fun _ h9 => h9) rfl dX4_writePathsTo_2 ?_
  have hP := hP.sub (ws' := [(h, .inr (6, [.ref ms, .ref sc, .ref sa, .int (nI n)])), (ms, aB E 128 f)] ++ []) [0, 1] rfl
  have hD := hD.sub (ws' := [(h, .inr (6, [.ref ms, .ref sc, .ref sa, .int (nI n)])), (ms, aB E 128 f)] ++ []) [0, 1] (by decide) rfl
  refine xcv (va_runV (As := [.int (nI pn)]) (rest := []) ⟨hx, hb, hml, hown, hts⟩ (kX5_putByte l E h ms sc sa n f (nI pn) (by first | assumption | omega) H.size) (cwV 1 hts gX4_writePathsTo_X5_putByte rfl rfl rfl (by decide +kernel) ⟨Nat.le_of_ble_eq_true rfl, Nat.le_of_ble_eq_true rfl⟩) ⟨CP.blind, (va_recv hev.1 hP.left (ci := 6) (q0 := 0) rfl rfl), (xpre hev hz hA hP hD hS hR0 hap [] rfl)⟩ rfl rfl hl.1 rfl (lv_room (Nat.le_of_ble_eq_true rfl)) dX4_writePathsTo_5 ⟨Nat.le_of_ble_eq_true rfl, Nat.le_of_ble_eq_true rfl⟩) hP hD hS hA (fun w2 H locs h3 hP hD hS => ?_)
  obtain ⟨g4, rfl, h3⟩ := h3
  try dsimp only at h3
  have hP : va_P E.1 vwCl [(h, .inr (6, [.ref ms, .ref sc, .ref sa, .int (nI (n + 1))])), (ms, aB E 128 g4)] H := hP
  have hD : va_D A [(h, .inr (6, [.ref ms, .ref sc, .ref sa, .int (nI (n + 1))])), (ms, aB E 128 g4)] := hD
  refine lv_iconst (v := 0) hx hb dX4_writePathsTo_8 (by decide) ?_
  refine lv_istore_n (lv' := [(2, .int 0), (0, .ref w0), (1, .ref h)]) hx hb dX4_writePathsTo_9 rfl hl (by decide) rfl (fun ls hl => ?_)
  have loop10 : ∀ (fz : Nat) (i : Nat) (g : Nat → Int32), (i ≤ pn) → (g = ap f n ([by8 (nI pn)] ++ pthB fh i)) → (pn - i < fz) → ∀ (H : Heap) (locs : List Loc), va_P E.1 vwCl [(h, .inr (6, [.ref ms, .ref sc, .ref sa, .int (nI (n + 1 + 4 * i))])), (ms, aB E 128 g)] H → va_D A [(h, .inr (6, [.ref ms, .ref sc, .ref sa, .int (nI (n + 1 + 4 * i))])), (ms, aB E 128 g)] → va_S A s.heap H locs → ∀ ls : Array Slot, lv_has ls 3 [(2, .int (nI i)), (0, .ref w0), (1, .ref h)] → W p l e ({ frames := 2, cells := 0, slots := 0, locals := 43 } : Room) s m ([.ref w0, .ref h] : List Value).toArray below meth c H locs 0 0 (MQ below (QV E (pX4_writePathsTo E h ms sc sa n f w0 nu role ver unt oa oc qo tq dq ha pn sg rk fh) A) ([.ref w0, .ref h] : List Value).toArray s 0 0 A) (F0 m 10 ls []) := by
    intro fz
    induction fz with
    | zero =>
      intro i g hi hg hfuel
      exact absurd hfuel (by omega)
    | succ fz ih =>
      intro i g hi hg hfuel H locs hP hD hS ls hl
      refine lv_iload_n hx hb dX4_writePathsTo_10 rfl (lv_at hl 0 rfl) ?_
      refine lv_aload_n hx hb dX4_writePathsTo_11 rfl (lv_at hl 1 rfl) ?_
      refine va_get (D := E.1) (ci := 5) (v := .int (nI pn)) (C := RX4) (T := TX4) (N := 13) hx hb hts hiX4 hown hev.1 (xro hR0 hap hS) 0 rfl rfl 10 (by decide) hf44 (fun _ h9 => h9) rfl dX4_writePathsTo_12 ?_
      refine lv_icmp_ge (tgt := 34) hx hb dX4_writePathsTo_15 (by decide) (fun c5 => ?_) (fun c5 => ?_)
      · skip
        have kc5 : pn ≤ i := (nI_leI (a := pn) (b := i) (by omega) (by omega)).mp c5
        have hin9 : i = pn := by omega
        rw [hin9] at hP hD hg
        refine xrv hx hb hr hlocks hP hD hS ⟨g, rfl, ?_⟩ dX4_writePathsTo_34
        exact hg
      · skip
        have kc5 : ¬ pn ≤ i := fun h9 => c5 ((nI_leI (a := pn) (b := i) (by omega) (by omega)).mpr h9)
        refine lv_aload_n hx hb dX4_writePathsTo_18 rfl (lv_at hl 2 rfl) ?_
        refine lv_aload_n hx hb dX4_writePathsTo_19 rfl (lv_at hl 1 rfl) ?_
        refine va_get (D := E.1) (ci := 5) (v := .ref ha) (C := RX4) (T := TX4) (N := 13) hx hb hts hiX4 hown hev.1 (xro hR0 hap hS) 0 rfl rfl 9 (by decide) hf40 (fun _ h9 => h9) rfl dX4_writePathsTo_20 ?_
        refine lv_iload_n hx hb dX4_writePathsTo_23 rfl (lv_at hl 0 rfl) ?_
        refine xiald (k := (i)) hx hb hev.1 (xro hR0 hap hS) 1 1 rfl rfl (by omega) (by decide) dX4_writePathsTo_24 ?_
        have hP := hP.sub (ws' := [(h, .inr (6, [.ref ms, .ref sc, .ref sa, .int (nI (n + 1 + 4 * i))])), (ms, aB E 128 g)] ++ []) [0, 1] rfl
        have hD := hD.sub (ws' := [(h, .inr (6, [.ref ms, .ref sc, .ref sa, .int (nI (n + 1 + 4 * i))])), (ms, aB E 128 g)] ++ []) [0, 1] (by decide) rfl
        refine xcv (va_runV (As := [.int (fh i)]) (rest := []) ⟨hx, hb, hml, hown, hts⟩ (kX5_putInt l E h ms sc sa (n + 1 + 4 * i) g (fh i) (by first | assumption | omega) H.size) (cwV 1 hts gX4_writePathsTo_X5_putInt rfl rfl rfl (by decide +kernel) ⟨Nat.le_of_ble_eq_true rfl, Nat.le_of_ble_eq_true rfl⟩) ⟨CP.blind, (va_recv hev.1 hP.left (ci := 6) (q0 := 0) rfl rfl), (xpre hev hz hA hP hD hS hR0 hap [] rfl)⟩ rfl rfl hl.1 rfl (lv_room (Nat.le_of_ble_eq_true rfl)) dX4_writePathsTo_25 ⟨Nat.le_of_ble_eq_true rfl, Nat.le_of_ble_eq_true rfl⟩) hP hD hS hA (fun w7 H locs h8 hP hD hS => ?_)
        obtain ⟨g9, rfl, h8⟩ := h8
        try dsimp only at h8
        have hP : va_P E.1 vwCl [(h, .inr (6, [.ref ms, .ref sc, .ref sa, .int (nI ((n + 1 + 4 * i) + 4))])), (ms, aB E 128 g9)] H := hP
        have hD : va_D A [(h, .inr (6, [.ref ms, .ref sc, .ref sa, .int (nI ((n + 1 + 4 * i) + 4))])), (ms, aB E 128 g9)] := hD
        refine lv_iinc (v := nI (i + 1)) (lv' := [(2, .int (nI (i + 1))), (0, .ref w0), (1, .ref h)]) hx hb dX4_writePathsTo_28 hl (k := 0) rfl ((nI_add i 1).trans (congrArg nI (by omega))) (by decide) rfl (fun ls hl => ?_)
        refine lv_goto (tgt := 10) hx hb dX4_writePathsTo_31 (by decide) ?_
        rw [show ((n + 1 + 4 * i) + 4 : Nat) = n + 1 + 4 * (i + 1) from by omega] at hP hD
        have hP : va_P E.1 vwCl [(h, .inr (6, [.ref ms, .ref sc, .ref sa, .int (nI (n + 1 + 4 * (i + 1)))])), (ms, aB E 128 g9)] H := hP
        have hD : va_D A [(h, .inr (6, [.ref ms, .ref sc, .ref sa, .int (nI (n + 1 + 4 * (i + 1)))])), (ms, aB E 128 g9)] := hD
        exact ih  (i + 1) g9 (by omega) ((ap_step (hg) h8 (by simp only [List.length_append, List.length_cons, List.length_nil, rosB_len, delB_len, pthB_len, octB_len, rowH_len, tldB_len, dlgB_len, lstB_len, bL_len, bI]; try omega)).trans (by simp only [pthB, List.append_assoc])) (by omega) _ _ hP hD hS ls (lv_sub hl [0, 1, 2] rfl)
  exact loop10 (pn + 1) 0 g4 (by omega) (by rw [h3]; simp only [pthB, List.append_nil]) (by omega) _ _ hP hD hS ls (lv_sub hl [0, 1, 2] rfl)
