abbrev pX7_key (E : xE) (x : Nat) (rg : Nat) (dr : Nat) (rs : Nat) (nr : Int32) (c0 : Nat) (h : Nat) (td : Nat) (ks : Nat) (ku : Nat) (kn : Nat) (fs : Nat → Int64) (fu : Nat → Int64) (a : Int64) (b : Int64) (r : Int32) (w : va_W) : Prop := ∃ (n2 : Nat) (gs : Nat → Int64) (gu : Nat → Int64), w = [(rg, .inr (3, [.ref ks, .ref ku, .int (nI n2)])), (ks, aJ E 20 gs), (ku, aJ E 20 gu)] ∧ ((20 ≤ kn ∧ r = -1 ∧ n2 = kn ∧ gs = fs ∧ gu = fu) ∨ (kn < 20 ∧ r = nI kn ∧ n2 = kn + 1 ∧ gs = vp_updL fs kn a ∧ gu = vp_updL fu kn b))
set_option maxHeartbeats 4000000 in
set_option maxRecDepth 100000 in
theorem kX7_key (l : Launch) (E : xE) (x : Nat) (rg : Nat) (dr : Nat) (rs : Nat) (nr : Int32) (c0 : Nat) (h : Nat) (td : Nat) (ks : Nat) (ku : Nat) (kn : Nat) (fs : Nat → Int64) (fu : Nat → Int64) (a : Int64) (b : Int64) (hkn : kn ≤ 20) : KT l yX7_key wsX7_key 1 24 0 0 E [(rg, .inr (3, [.ref ks, .ref ku, .int (nI kn)])), (ks, aJ E 20 fs), (ku, aJ E 20 fu)] [(x, .inr (8, [.ref rg, .ref dr, .ref rs, .int nr, .ref c0, .ref h, .ref td]))] [.ref x, .long a, .long b] (QI E (pX7_key E x rg dr rs nr c0 h td ks ku kn fs fu a b)) := by
  refine KT.start (cc := cX7_key) (maxL := 5) (ret := (some .int)) (by decide) rfl (Nat.le_of_ble_eq_true rfl) ?_
  intro p e s m below meth c A H hx hb hr hlocks hml hts hown hin hP hR0 hD hap hev hz hA hS ls hl
  have hl : lv_has ls 5 [(0, .ref x), (1, .long a), (3, .long b)] := hl
  have hiX7 : ∀ w ∈ wsX70, w ∈ wsX7_key := by decide +kernel
  have hf12 := hts (.fieldLink RX7 12 "SignQuorum" "ring" "LSignQuorum$KeyRing;") (by decide +kernel)
  refine lv_aload_n hx hb dX7_key_0 rfl (lv_at hl 0 rfl) ?_
  refine va_get (D := E.1) (ci := 8) (v := .ref rg) (C := RX7) (T := TX7) (N := 7) hx hb hts hiX7 hown hev.1 (xro hR0 hap hS) 0 rfl rfl 0 (by decide) hf12 (fun _ h9 => h9) rfl dX7_key_1 ?_
  refine lv_lload_n hx hb dX7_key_4 rfl (lv_at hl 1 rfl) ?_
  refine lv_lload_n hx hb dX7_key_5 rfl (lv_at hl 2 rfl) ?_
  have hP := hP.sub (ws' := [(rg, .inr (3, [.ref ks, .ref ku, .int (nI kn)])), (ks, aJ E 20 fs), (ku, aJ E 20 fu)] ++ []) [0, 1, 2] rfl
  have hD := hD.sub (ws' := [(rg, .inr (3, [.ref ks, .ref ku, .int (nI kn)])), (ks, aJ E 20 fs), (ku, aJ E 20 fu)] ++ []) [0, 1, 2] (by decide) rfl
  refine xci (va_runV (As := [.long a, .long b]) (rest := []) ⟨hx, hb, hml, hown, hts⟩ (kX2_add l E rg ks ku kn fs fu a b (by first | assumption | omega) H.size) (cwV 2 hts gX7_key_X2_add rfl rfl rfl (by decide +kernel) ⟨Nat.le_of_ble_eq_true rfl, Nat.le_of_ble_eq_true rfl⟩) ⟨CP.blind, (va_recv hev.1 hP.left (ci := 3) (q0 := 0) rfl rfl), (xpre hev hz hA hP hD hS hR0 hap [] rfl)⟩ rfl rfl hl.1 rfl (lv_room (Nat.le_of_ble_eq_true rfl)) dX7_key_6 ⟨Nat.le_of_ble_eq_true rfl, Nat.le_of_ble_eq_true rfl⟩) hP hD hS hA (fun r1 w2 H locs h3 hP hD hS => ?_)
  obtain ⟨n24, gs5, gu6, rfl, h3⟩ := h3
  try dsimp only at h3
  have hP : va_P E.1 vwCl [(rg, .inr (3, [.ref ks, .ref ku, .int (nI n24)])), (ks, aJ E 20 gs5), (ku, aJ E 20 gu6)] H := hP
  have hD : va_D A [(rg, .inr (3, [.ref ks, .ref ku, .int (nI n24)])), (ks, aJ E 20 gs5), (ku, aJ E 20 gu6)] := hD
  refine xri hx hb hr hlocks hP hD hS ⟨n24, gs5, gu6, rfl, ?_⟩ dX7_key_9
  exact h3

abbrev pX7_quorum (E : xE) (x : Nat) (rg : Nat) (dr : Nat) (rs : Nat) (nr : Int32) (c0 : Nat) (h : Nat) (td : Nat) (na : Nat) (ma : Nat) (fn : Nat → Int32) (y : Int32) (v : Int32) (r : Int32) (w : va_W) : Prop := ∃ (gn : Nat → Int32), w = [(na, aI E 10 gn)] ∧ ((∃ j, j < 10 ∧ y = nI j ∧ ¬ v < 1 ∧ v ≤ 9 ∧ r = 1 ∧ gn = upd fn j v) ∨ (¬ (isN y 10 ∧ ¬ v < 1 ∧ v ≤ 9) ∧ r = 0 ∧ gn = fn))
set_option maxHeartbeats 4000000 in
set_option maxRecDepth 100000 in
theorem kX7_quorum (l : Launch) (E : xE) (x : Nat) (rg : Nat) (dr : Nat) (rs : Nat) (nr : Int32) (c0 : Nat) (h : Nat) (td : Nat) (na : Nat) (ma : Nat) (fn : Nat → Int32) (y : Int32) (v : Int32)  : KT l yX7_quorum wsX7_quorum 2 42 0 0 E [(na, aI E 10 fn)] [(x, .inr (8, [.ref rg, .ref dr, .ref rs, .int nr, .ref c0, .ref h, .ref td])), (dr, .inr (4, [.ref na, .ref ma]))] [.ref x, .int y, .int v] (QI E (pX7_quorum E x rg dr rs nr c0 h td na ma fn y v)) := by
  refine KT.start (cc := cX7_quorum) (maxL := 3) (ret := (some .boolean)) (by decide) rfl (Nat.le_of_ble_eq_true rfl) ?_
  intro p e s m below meth c A H hx hb hr hlocks hml hts hown hin hP hR0 hD hap hev hz hA hS ls hl
  have hl : lv_has ls 3 [(0, .ref x), (1, .int y), (2, .int v)] := hl
  have hiX7 : ∀ w ∈ wsX70, w ∈ wsX7_quorum := by decide +kernel
  have hf19 := hts (.fieldLink RX7 19 "SignQuorum" "draft" "LSignQuorum$Roster;") (by decide +kernel)
  refine lv_iload_n hx hb dX7_quorum_0 rfl (lv_at hl 1 rfl) ?_
  have hP := hP.sub (ws' := [] ++ [(na, aI E 10 fn)]) [0] rfl
  have hD := hD.sub (ws' := [] ++ [(na, aI E 10 fn)]) [0] (by decide) rfl
  refine xci (va_runS (As := [.int y]) (rest := []) ⟨hx, hb, hml, hown, hts⟩ (kX7_isRole l E y  H.size) (va_cwS 1 hts gX7_quorum_X7_isRole rfl rfl rfl (by decide +kernel) ⟨Nat.le_of_ble_eq_true rfl, Nat.le_of_ble_eq_true rfl⟩) ⟨CP.blind, (xpre hev hz hA hP hD hS hR0 hap [] rfl)⟩ rfl rfl hl.1 rfl (lv_room (Nat.le_of_ble_eq_true rfl)) dX7_quorum_1 ⟨Nat.le_of_ble_eq_true rfl, Nat.le_of_ble_eq_true rfl⟩) hP hD hS hA (fun r1 w2 H locs h3 hP hD hS => ?_)
  obtain ⟨rfl, rfl, h3⟩ := h3
  try dsimp only at h3
  have hP : va_P E.1 vwCl [(na, aI E 10 fn)] H := hP
  have hD : va_D A [(na, aI E 10 fn)] := hD
  refine lv_if_eq (tgt := 18) hx hb dX7_quorum_4 (by decide) (fun c4 => ?_) (fun c4 => ?_)
  · skip
    have kc4 := b1_0.mp c4
    refine lv_iconst (v := 0) hx hb dX7_quorum_18 (by decide) ?_
    refine xrz hx hb hr hlocks (by first | rfl | decide | exact b1_narrow _) hP hD hS ⟨fn, rfl, ?_⟩ dX7_quorum_19
    exact Or.inr ⟨fun q => kc4 q.1, rfl, rfl⟩
  · skip
    have kc4 := b1_n.mp c4
    refine lv_iload_n hx hb dX7_quorum_7 rfl (lv_at hl 2 rfl) ?_
    refine lv_iconst (v := 1) hx hb dX7_quorum_8 (by decide) ?_
    refine lv_icmp_lt (tgt := 18) hx hb dX7_quorum_9 (by decide) (fun c5 => ?_) (fun c5 => ?_)
    · skip
      refine lv_iconst (v := 0) hx hb dX7_quorum_18 (by decide) ?_
      refine xrz hx hb hr hlocks (by first | rfl | decide | exact b1_narrow _) hP hD hS ⟨fn, rfl, ?_⟩ dX7_quorum_19
      exact Or.inr ⟨fun q => q.2.1 c5, rfl, rfl⟩
    · skip
      refine lv_iload_n hx hb dX7_quorum_12 rfl (lv_at hl 2 rfl) ?_
      refine lv_bipush (v := 9) hx hb dX7_quorum_13 (by decide) ?_
      refine lv_icmp_le (tgt := 20) hx hb dX7_quorum_15 (by decide) (fun c6 => ?_) (fun c6 => ?_)
      · skip
        obtain ⟨j, hj, rfl⟩ := kc4
        refine lv_aload_n hx hb dX7_quorum_20 rfl (lv_at hl 0 rfl) ?_
        refine va_get (D := E.1) (ci := 8) (v := .ref dr) (C := RX7) (T := TX7) (N := 7) hx hb hts hiX7 hown hev.1 (xro hR0 hap hS) 0 rfl rfl 1 (by decide) hf19 (fun _ h9 => h9) rfl dX7_quorum_21 ?_
        refine lv_iload_n hx hb dX7_quorum_24 rfl (lv_at hl 1 rfl) ?_
        refine lv_iload_n hx hb dX7_quorum_25 rfl (lv_at hl 2 rfl) ?_
        have hP := hP.sub (ws' := [(na, aI E 10 fn)] ++ []) [0] rfl
        have hD := hD.sub (ws' := [(na, aI E 10 fn)] ++ []) [0] (by decide) rfl
        refine xcv (va_runV (As := [.int (nI j), .int v]) (rest := []) ⟨hx, hb, hml, hown, hts⟩ (kX3_setNeeded l E dr na ma fn j v (by first | assumption | omega) H.size) (cwV 2 hts gX7_quorum_X3_setNeeded rfl rfl rfl (by decide +kernel) ⟨Nat.le_of_ble_eq_true rfl, Nat.le_of_ble_eq_true rfl⟩) ⟨CP.blind, (va_recv hev.1 (xro hR0 hap hS) (ci := 4) (q0 := 1) rfl rfl), (xpre hev hz hA hP hD hS hR0 hap [1] rfl)⟩ rfl rfl hl.1 rfl (lv_room (Nat.le_of_ble_eq_true rfl)) dX7_quorum_26 ⟨Nat.le_of_ble_eq_true rfl, Nat.le_of_ble_eq_true rfl⟩) hP hD hS hA (fun w8 H locs h9 hP hD hS => ?_)
        obtain ⟨gn10, rfl, h9⟩ := h9
        try dsimp only at h9
        have hP : va_P E.1 vwCl [(na, aI E 10 gn10)] H := hP
        have hD : va_D A [(na, aI E 10 gn10)] := hD
        refine lv_iconst (v := 1) hx hb dX7_quorum_29 (by decide) ?_
        refine xrz hx hb hr hlocks (by first | rfl | decide | exact b1_narrow _) hP hD hS ⟨gn10, rfl, ?_⟩ dX7_quorum_30
        exact Or.inl ⟨j, hj, rfl, c5, c6, rfl, h9⟩
      · skip
        refine lv_iconst (v := 0) hx hb dX7_quorum_18 (by decide) ?_
        refine xrz hx hb hr hlocks (by first | rfl | decide | exact b1_narrow _) hP hD hS ⟨fn, rfl, ?_⟩ dX7_quorum_19
        exact Or.inr ⟨fun q => c6 q.2.2, rfl, rfl⟩

abbrev pX7_holds (E : xE) (x : Nat) (rg : Nat) (dr : Nat) (rs : Nat) (nr : Int32) (c0 : Nat) (h : Nat) (td : Nat) (ks : Nat) (ku : Nat) (kn : Nat) (na : Nat) (ma : Nat) (fm : Nat → Int32) (y : Int32) (z : Int32) (on : Int32) (r : Int32) (w : va_W) : Prop := ∃ (gm : Nat → Int32), w = [(ma, aI E 10 gm)] ∧ ((∃ j, j < 10 ∧ y = nI j ∧ isN z kn ∧ r = 1 ∧ (on = 0 → gm = upd fm j (fm j &&& ((1 <<< (z &&& 31)) ^^^ (-1)))) ∧ (¬ on = 0 → gm = upd fm j (fm j ||| (1 <<< (z &&& 31))))) ∨ (¬ (isN y 10 ∧ isN z kn) ∧ r = 0 ∧ gm = fm))
set_option maxHeartbeats 4000000 in
set_option maxRecDepth 100000 in
theorem kX7_holds (l : Launch) (E : xE) (x : Nat) (rg : Nat) (dr : Nat) (rs : Nat) (nr : Int32) (c0 : Nat) (h : Nat) (td : Nat) (ks : Nat) (ku : Nat) (kn : Nat) (na : Nat) (ma : Nat) (fm : Nat → Int32) (y : Int32) (z : Int32) (on : Int32) (hkn : kn ≤ 20) : KT l yX7_holds wsX7_holds 2 44 0 0 E [(ma, aI E 10 fm)] [(x, .inr (8, [.ref rg, .ref dr, .ref rs, .int nr, .ref c0, .ref h, .ref td])), (dr, .inr (4, [.ref na, .ref ma])), (rg, .inr (3, [.ref ks, .ref ku, .int (nI kn)]))] [.ref x, .int y, .int z, .int on] (QI E (pX7_holds E x rg dr rs nr c0 h td ks ku kn na ma fm y z on)) := by
  refine KT.start (cc := cX7_holds) (maxL := 4) (ret := (some .boolean)) (by decide) rfl (Nat.le_of_ble_eq_true rfl) ?_
  intro p e s m below meth c A H hx hb hr hlocks hml hts hown hin hP hR0 hD hap hev hz hA hS ls hl
  have hl : lv_has ls 4 [(0, .ref x), (1, .int y), (2, .int z), (3, .int on)] := hl
  have hiX7 : ∀ w ∈ wsX70, w ∈ wsX7_holds := by decide +kernel
  have hf12 := hts (.fieldLink RX7 12 "SignQuorum" "ring" "LSignQuorum$KeyRing;") (by decide +kernel)
  have hf19 := hts (.fieldLink RX7 19 "SignQuorum" "draft" "LSignQuorum$Roster;") (by decide +kernel)
  refine lv_iload_n hx hb dX7_holds_0 rfl (lv_at hl 1 rfl) ?_
  have hP := hP.sub (ws' := [] ++ [(ma, aI E 10 fm)]) [0] rfl
  have hD := hD.sub (ws' := [] ++ [(ma, aI E 10 fm)]) [0] (by decide) rfl
  refine xci (va_runS (As := [.int y]) (rest := []) ⟨hx, hb, hml, hown, hts⟩ (kX7_isRole l E y  H.size) (va_cwS 1 hts gX7_holds_X7_isRole rfl rfl rfl (by decide +kernel) ⟨Nat.le_of_ble_eq_true rfl, Nat.le_of_ble_eq_true rfl⟩) ⟨CP.blind, (xpre hev hz hA hP hD hS hR0 hap [] rfl)⟩ rfl rfl hl.1 rfl (lv_room (Nat.le_of_ble_eq_true rfl)) dX7_holds_1 ⟨Nat.le_of_ble_eq_true rfl, Nat.le_of_ble_eq_true rfl⟩) hP hD hS hA (fun r1 w2 H locs h3 hP hD hS => ?_)
  obtain ⟨rfl, rfl, h3⟩ := h3
  try dsimp only at h3
  have hP : va_P E.1 vwCl [(ma, aI E 10 fm)] H := hP
  have hD : va_D A [(ma, aI E 10 fm)] := hD
  refine lv_if_eq (tgt := 18) hx hb dX7_holds_4 (by decide) (fun c4 => ?_) (fun c4 => ?_)
  · skip
    have kc4 := b1_0.mp c4
    refine lv_iconst (v := 0) hx hb dX7_holds_18 (by decide) ?_
    refine xrz hx hb hr hlocks (by first | rfl | decide | exact b1_narrow _) hP hD hS ⟨fm, rfl, ?_⟩ dX7_holds_19
    exact Or.inr ⟨fun q => kc4 q.1, rfl, rfl⟩
  · skip
    have kc4 := b1_n.mp c4
    refine lv_aload_n hx hb dX7_holds_7 rfl (lv_at hl 0 rfl) ?_
    refine va_get (D := E.1) (ci := 8) (v := .ref rg) (C := RX7) (T := TX7) (N := 7) hx hb hts hiX7 hown hev.1 (xro hR0 hap hS) 0 rfl rfl 0 (by decide) hf12 (fun _ h9 => h9) rfl dX7_holds_8 ?_
    refine lv_iload_n hx hb dX7_holds_11 rfl (lv_at hl 2 rfl) ?_
    have hP := hP.sub (ws' := [] ++ [(ma, aI E 10 fm)]) [0] rfl
    have hD := hD.sub (ws' := [] ++ [(ma, aI E 10 fm)]) [0] (by decide) rfl
    refine xci (va_runV (As := [.int z]) (rest := []) ⟨hx, hb, hml, hown, hts⟩ (kX2_has l E rg ks ku kn z (by first | assumption | omega) H.size) (cwV 1 hts gX7_holds_X2_has rfl rfl rfl (by decide +kernel) ⟨Nat.le_of_ble_eq_true rfl, Nat.le_of_ble_eq_true rfl⟩) ⟨CP.blind, (va_recv hev.1 (xro hR0 hap hS) (ci := 3) (q0 := 2) rfl rfl), (xpre hev hz hA hP hD hS hR0 hap [3] rfl)⟩ rfl rfl hl.1 rfl (lv_room (Nat.le_of_ble_eq_true rfl)) dX7_holds_12 ⟨Nat.le_of_ble_eq_true rfl, Nat.le_of_ble_eq_true rfl⟩) hP hD hS hA (fun r5 w6 H locs h7 hP hD hS => ?_)
    obtain ⟨rfl, rfl, h7⟩ := h7
    try dsimp only at h7
    have hP : va_P E.1 vwCl [(ma, aI E 10 fm)] H := hP
    have hD : va_D A [(ma, aI E 10 fm)] := hD
    refine lv_if_ne (tgt := 20) hx hb dX7_holds_15 (by decide) (fun c8 => ?_) (fun c8 => ?_)
    · skip
      have kc8 := b1_n.mp c8
      obtain ⟨j, hj, rfl⟩ := kc4
      refine lv_aload_n hx hb dX7_holds_20 rfl (lv_at hl 0 rfl) ?_
      refine va_get (D := E.1) (ci := 8) (v := .ref dr) (C := RX7) (T := TX7) (N := 7) hx hb hts hiX7 hown hev.1 (xro hR0 hap hS) 0 rfl rfl 1 (by decide) hf19 (fun _ h9 => h9) rfl dX7_holds_21 ?_
      refine lv_iload_n hx hb dX7_holds_24 rfl (lv_at hl 1 rfl) ?_
      refine lv_iload_n hx hb dX7_holds_25 rfl (lv_at hl 2 rfl) ?_
      refine lv_iload_n hx hb dX7_holds_26 rfl (lv_at hl 3 rfl) ?_
      have hP := hP.sub (ws' := [(ma, aI E 10 fm)] ++ []) [0] rfl
      have hD := hD.sub (ws' := [(ma, aI E 10 fm)] ++ []) [0] (by decide) rfl
      refine xcv (va_runV (As := [.int (nI j), .int z, .int on]) (rest := []) ⟨hx, hb, hml, hown, hts⟩ (kX3_setMember l E dr na ma fm j z on (by first | assumption | omega) H.size) (cwV 3 hts gX7_holds_X3_setMember rfl rfl rfl (by decide +kernel) ⟨Nat.le_of_ble_eq_true rfl, Nat.le_of_ble_eq_true rfl⟩) ⟨CP.blind, (va_recv hev.1 (xro hR0 hap hS) (ci := 4) (q0 := 1) rfl rfl), (xpre hev hz hA hP hD hS hR0 hap [1] rfl)⟩ rfl rfl hl.1 rfl (lv_room (Nat.le_of_ble_eq_true rfl)) dX7_holds_27 ⟨Nat.le_of_ble_eq_true rfl, Nat.le_of_ble_eq_true rfl⟩) hP hD hS hA (fun w10 H locs h11 hP hD hS => ?_)
      obtain ⟨gm12, rfl, h11⟩ := h11
      try dsimp only at h11
      have hP : va_P E.1 vwCl [(ma, aI E 10 gm12)] H := hP
      have hD : va_D A [(ma, aI E 10 gm12)] := hD
      refine lv_iconst (v := 1) hx hb dX7_holds_30 (by decide) ?_
      refine xrz hx hb hr hlocks (by first | rfl | decide | exact b1_narrow _) hP hD hS ⟨gm12, rfl, ?_⟩ dX7_holds_31
      exact Or.inl ⟨j, hj, rfl, kc8, rfl, h11⟩
    · skip
      have kc8 := b1_0.mp c8
      refine lv_iconst (v := 0) hx hb dX7_holds_18 (by decide) ?_
      refine xrz hx hb hr hlocks (by first | rfl | decide | exact b1_narrow _) hP hD hS ⟨fm, rfl, ?_⟩ dX7_holds_19
      exact Or.inr ⟨fun q => kc8 q.2, rfl, rfl⟩

abbrev pX7_rowN (E : xE) (x : Nat) (rg : Nat) (dr : Nat) (rs : Nat) (c0 : Nat) (h : Nat) (td : Nat) (rf : Nat → Option Nat) (nn : Nat) (y : Int32) (v : Int32) (u : Int64) (r : Int32) (w : va_W) : Prop := w = [] ∧ r = -1 ∧ (True)
set_option maxHeartbeats 4000000 in
set_option maxRecDepth 100000 in
theorem kX7_rowN (l : Launch) (E : xE) (x : Nat) (rg : Nat) (dr : Nat) (rs : Nat) (c0 : Nat) (h : Nat) (td : Nat) (rf : Nat → Option Nat) (nn : Nat) (y : Int32) (v : Int32) (u : Int64) (hnn : nn ≤ 24) (hno : ¬ (isN y 10 ∧ (¬ v < 1 ∧ ¬ 1000000 < v) ∧ nn < 24)) : KT l yX7_row wsX7_row 1 20 0 0 E [] [(x, .inr (8, [.ref rg, .ref dr, .ref rs, .int (nI nn), .ref c0, .ref h, .ref td])), (rs, aR E 24 rf)] [.ref x, .int y, .int v, .long u] (QI E (pX7_rowN E x rg dr rs c0 h td rf nn y v u)) := by
  refine KT.start (cc := cX7_row) (maxL := 6) (ret := (some .int)) (by decide) rfl (Nat.le_of_ble_eq_true rfl) ?_
  intro p e s m below meth c A H hx hb hr hlocks hml hts hown hin hP hR0 hD hap hev hz hA hS ls hl
  have hl : lv_has ls 6 [(0, .ref x), (1, .int y), (2, .int v), (3, .long u)] := hl
  have hiX7 : ∀ w ∈ wsX70, w ∈ wsX7_row := by decide +kernel
  have hf25 := hts (.fieldLink RX7 25 "SignQuorum" "rows" "[LSignQuorum$Row;") (by decide +kernel)
  have hf29 := hts (.fieldLink RX7 29 "SignQuorum" "rowCount" "I") (by decide +kernel)
  refine lv_iload_n hx hb dX7_row_0 rfl (lv_at hl 1 rfl) ?_
  have hP := hP.sub (ws' := [] ++ []) [] rfl
  have hD := hD.sub (ws' := [] ++ []) [] (by decide) rfl
  refine xci (va_runS (As := [.int y]) (rest := []) ⟨hx, hb, hml, hown, hts⟩ (kX7_isRole l E y  H.size) (va_cwS 1 hts gX7_row_X7_isRole rfl rfl rfl (by decide +kernel) ⟨Nat.le_of_ble_eq_true rfl, Nat.le_of_ble_eq_true rfl⟩) ⟨CP.blind, (xpre hev hz hA hP hD hS hR0 hap [] rfl)⟩ rfl rfl hl.1 rfl (lv_room (Nat.le_of_ble_eq_true rfl)) dX7_row_1 ⟨Nat.le_of_ble_eq_true rfl, Nat.le_of_ble_eq_true rfl⟩) hP hD hS hA (fun r1 w2 H locs h3 hP hD hS => ?_)
  obtain ⟨rfl, rfl, h3⟩ := h3
  try dsimp only at h3
  have hP : va_P E.1 vwCl [] H := hP
  have hD : va_D A [] := hD
  refine lv_if_eq (tgt := 26) hx hb dX7_row_4 (by decide) (fun c4 => ?_) (fun c4 => ?_)
  · skip
    have kc4 := b1_0.mp c4
    refine lv_iconst (v := (-1)) hx hb dX7_row_26 (by decide) ?_
    refine xri hx hb hr hlocks hP hD hS ⟨rfl, ?_, ?_⟩ dX7_row_27
    · rfl
    · trivial
  · skip
    have kc4 := b1_n.mp c4
    refine lv_iload_n hx hb dX7_row_7 rfl (lv_at hl 2 rfl) ?_
    have hP := hP.sub (ws' := [] ++ []) [] rfl
    have hD := hD.sub (ws' := [] ++ []) [] (by decide) rfl
    refine xci (va_runS (As := [.int v]) (rest := []) ⟨hx, hb, hml, hown, hts⟩ (kX7_isVersion l E v  H.size) (va_cwS 1 hts gX7_row_X7_isVersion rfl rfl rfl (by decide +kernel) ⟨Nat.le_of_ble_eq_true rfl, Nat.le_of_ble_eq_true rfl⟩) ⟨CP.blind, (xpre hev hz hA hP hD hS hR0 hap [] rfl)⟩ rfl rfl hl.1 rfl (lv_room (Nat.le_of_ble_eq_true rfl)) dX7_row_8 ⟨Nat.le_of_ble_eq_true rfl, Nat.le_of_ble_eq_true rfl⟩) hP hD hS hA (fun r5 w6 H locs h7 hP hD hS => ?_)
    obtain ⟨rfl, rfl, h7⟩ := h7
    try dsimp only at h7
    have hP : va_P E.1 vwCl [] H := hP
    have hD : va_D A [] := hD
    refine lv_if_eq (tgt := 26) hx hb dX7_row_11 (by decide) (fun c8 => ?_) (fun c8 => ?_)
    · skip
      have kc8 := b1_0.mp c8
      refine lv_iconst (v := (-1)) hx hb dX7_row_26 (by decide) ?_
      refine xri hx hb hr hlocks hP hD hS ⟨rfl, ?_, ?_⟩ dX7_row_27
      · rfl
      · trivial
    · skip
      have kc8 := b1_n.mp c8
      refine lv_aload_n hx hb dX7_row_14 rfl (lv_at hl 0 rfl) ?_
      refine va_get (D := E.1) (ci := 8) (v := .int (nI nn)) (C := RX7) (T := TX7) (N := 7) hx hb hts hiX7 hown hev.1 (xro hR0 hap hS) 0 rfl rfl 3 (by decide) hf29 (fun _ h9 => h9) rfl dX7_row_15 ?_
      refine lv_aload_n hx hb dX7_row_18 rfl (lv_at hl 0 rfl) ?_
      refine va_get (D := E.1) (ci := 8) (v := .ref rs) (C := RX7) (T := TX7) (N := 7) hx hb hts hiX7 hown hev.1 (xro hR0 hap hS) 0 rfl rfl 2 (by decide) hf25 (fun _ h9 => h9) rfl dX7_row_19 ?_
      refine va_alen (v := 24) hx hb hev.1 (xro hR0 hap hS) 1 4 rfl rfl rfl dX7_row_22 ?_
      refine lv_icmp_lt (tgt := 28) hx hb dX7_row_23 (by decide) (fun c9 => ?_) (fun c9 => ?_)
      · skip
        have kc9 : nn < 24 := (nI_ltI (a := nn) (b := 24) (by omega) (by omega)).mp c9
        exact absurd ⟨kc4, kc8, by omega⟩ hno
      · skip
        have kc9 : ¬ nn < 24 := fun h9 => c9 ((nI_ltI (a := nn) (b := 24) (by omega) (by omega)).mpr h9)
        refine lv_iconst (v := (-1)) hx hb dX7_row_26 (by decide) ?_
        refine xri hx hb hr hlocks hP hD hS ⟨rfl, ?_, ?_⟩ dX7_row_27
        · rfl
        · trivial

abbrev pX7_row (E : xE) (x : Nat) (rg : Nat) (dr : Nat) (rs : Nat) (c0 : Nat) (h : Nat) (td : Nat) (rf : Nat → Option Nat) (nn : Nat) (na : Nat) (ma : Nat) (fn : Nat → Int32) (fm : Nat → Int32) (j : Nat) (v : Int32) (u : Int64) (r : Int32) (w : va_W) : Prop := ∃ (rf2 : Nat → Option Nat) (w0 : Nat) (oa : Nat) (qo : Nat) (tq : Nat) (dq : Nat) (ha : Nat) (na2 : Nat) (ma2 : Nat) (ra : Nat) (va : Nat) (pa : Nat) (ta : Nat) (ea : Nat) (gn : Nat → Int32) (gm : Nat → Int32), w = [(x, .inr (8, [.ref rg, .ref dr, .ref rs, .int (nI (nn + 1)), .ref c0, .ref h, .ref td])), (rs, aR E 24 rf2), (w0, .inr (5, [.int (nI nn), .int (nI j), .int v, .long u, .ref oa, .int 0, .ref qo, .ref tq, .ref dq, .ref ha, .int 0, .int 0, .int 0])), (oa, aB E 16 (fun _ => 0)), (qo, .inr (4, [.ref na2, .ref ma2])), (na2, aI E 10 gn), (ma2, aI E 10 gm), (tq, .inr (7, [.ref ra, .ref va, .int 0])), (ra, aI E 7 (fun _ => 0)), (va, aI E 7 (fun _ => 0)), (dq, .inr (2, [.ref pa, .ref ta, .ref ea, .int 0])), (pa, aI E 6 (fun _ => 0)), (ta, aI E 6 (fun _ => 0)), (ea, aZ E 6 (fun _ => 0)), (ha, aI E 6 (fun _ => 0))] ∧ r = nI nn ∧ (rf2 = va_up rf nn (some w0) ∧ (j = 0 → ∀ k, k < 10 → gn k = fn k ∧ gm k = fm k))
set_option maxHeartbeats 4000000 in
set_option maxRecDepth 100000 in
theorem kX7_row (l : Launch) (E : xE) (x : Nat) (rg : Nat) (dr : Nat) (rs : Nat) (c0 : Nat) (h : Nat) (td : Nat) (rf : Nat → Option Nat) (nn : Nat) (na : Nat) (ma : Nat) (fn : Nat → Int32) (fm : Nat → Int32) (j : Nat) (v : Int32) (u : Int64) (hnn : nn < 24) (hj : j < 10) (hv : (¬ v < 1 ∧ ¬ 1000000 < v)) : KT l yX7_row wsX7_row 3 58 13 96 E [(x, .inr (8, [.ref rg, .ref dr, .ref rs, .int (nI nn), .ref c0, .ref h, .ref td])), (rs, aR E 24 rf)] [(dr, .inr (4, [.ref na, .ref ma])), (na, aI E 10 fn), (ma, aI E 10 fm)] [.ref x, .int (nI j), .int v, .long u] (QI E (pX7_row E x rg dr rs c0 h td rf nn na ma fn fm j v u)) := by
  refine KT.start (cc := cX7_row) (maxL := 6) (ret := (some .int)) (by decide) rfl (Nat.le_of_ble_eq_true rfl) ?_
  intro p e s m below meth c A H hx hb hr hlocks hml hts hown hin hP hR0 hD hap hev hz hA hS ls hl
  have hl : lv_has ls 6 [(0, .ref x), (1, .int (nI j)), (2, .int v), (3, .long u)] := hl
  have hiX4 : ∀ w ∈ wsX40, w ∈ wsX7_row := by decide +kernel
  have hiX7 : ∀ w ∈ wsX70, w ∈ wsX7_row := by decide +kernel
  have hcl23 := hts (.classLink RX7 23 RX4) (by decide +kernel)
  have hf19 := hts (.fieldLink RX7 19 "SignQuorum" "draft" "LSignQuorum$Roster;") (by decide +kernel)
  have hf25 := hts (.fieldLink RX7 25 "SignQuorum" "rows" "[LSignQuorum$Row;") (by decide +kernel)
  have hf29 := hts (.fieldLink RX7 29 "SignQuorum" "rowCount" "I") (by decide +kernel)
  have himX4_init := hts (.instanceMethod yX4_init) (by decide +kernel)
  have hinX4 := hts (.instantiable RX4 13) (by decide +kernel)
  have hiniX4 := hts (.initialized RX4) (by decide +kernel)
  have hml73 := hts (.methodLink RX7 73 yX4_init) (by decide +kernel)
  refine lv_iload_n hx hb dX7_row_0 rfl (lv_at hl 1 rfl) ?_
  have hP := hP.sub (ws' := [] ++ [(x, .inr (8, [.ref rg, .ref dr, .ref rs, .int (nI nn), .ref c0, .ref h, .ref td])), (rs, aR E 24 rf)]) [0, 1] rfl
  have hD := hD.sub (ws' := [] ++ [(x, .inr (8, [.ref rg, .ref dr, .ref rs, .int (nI nn), .ref c0, .ref h, .ref td])), (rs, aR E 24 rf)]) [0, 1] (by decide) rfl
  refine xci (va_runS (As := [.int (nI j)]) (rest := []) ⟨hx, hb, hml, hown, hts⟩ (kX7_isRole l E (nI j)  H.size) (va_cwS 1 hts gX7_row_X7_isRole rfl rfl rfl (by decide +kernel) ⟨Nat.le_of_ble_eq_true rfl, Nat.le_of_ble_eq_true rfl⟩) ⟨CP.blind, (xpre hev hz hA hP hD hS hR0 hap [] rfl)⟩ rfl rfl hl.1 rfl (lv_room (Nat.le_of_ble_eq_true rfl)) dX7_row_1 ⟨Nat.le_of_ble_eq_true rfl, Nat.le_of_ble_eq_true rfl⟩) hP hD hS hA (fun r1 w2 H locs h3 hP hD hS => ?_)
  obtain ⟨rfl, rfl, h3⟩ := h3
  try dsimp only at h3
  have hP : va_P E.1 vwCl [(x, .inr (8, [.ref rg, .ref dr, .ref rs, .int (nI nn), .ref c0, .ref h, .ref td])), (rs, aR E 24 rf)] H := hP
  have hD : va_D A [(x, .inr (8, [.ref rg, .ref dr, .ref rs, .int (nI nn), .ref c0, .ref h, .ref td])), (rs, aR E 24 rf)] := hD
  refine lv_if_eq (tgt := 26) hx hb dX7_row_4 (by decide) (fun c4 => absurd c4 (b1_n.mpr (⟨j, hj, rfl⟩))) (fun c4 => ?_)
  refine lv_iload_n hx hb dX7_row_7 rfl (lv_at hl 2 rfl) ?_
  have hP := hP.sub (ws' := [] ++ [(x, .inr (8, [.ref rg, .ref dr, .ref rs, .int (nI nn), .ref c0, .ref h, .ref td])), (rs, aR E 24 rf)]) [0, 1] rfl
  have hD := hD.sub (ws' := [] ++ [(x, .inr (8, [.ref rg, .ref dr, .ref rs, .int (nI nn), .ref c0, .ref h, .ref td])), (rs, aR E 24 rf)]) [0, 1] (by decide) rfl
  refine xci (va_runS (As := [.int v]) (rest := []) ⟨hx, hb, hml, hown, hts⟩ (kX7_isVersion l E v  H.size) (va_cwS 1 hts gX7_row_X7_isVersion rfl rfl rfl (by decide +kernel) ⟨Nat.le_of_ble_eq_true rfl, Nat.le_of_ble_eq_true rfl⟩) ⟨CP.blind, (xpre hev hz hA hP hD hS hR0 hap [] rfl)⟩ rfl rfl hl.1 rfl (lv_room (Nat.le_of_ble_eq_true rfl)) dX7_row_8 ⟨Nat.le_of_ble_eq_true rfl, Nat.le_of_ble_eq_true rfl⟩) hP hD hS hA (fun r5 w6 H locs h7 hP hD hS => ?_)
  obtain ⟨rfl, rfl, h7⟩ := h7
  try dsimp only at h7
  have hP : va_P E.1 vwCl [(x, .inr (8, [.ref rg, .ref dr, .ref rs, .int (nI nn), .ref c0, .ref h, .ref td])), (rs, aR E 24 rf)] H := hP
  have hD : va_D A [(x, .inr (8, [.ref rg, .ref dr, .ref rs, .int (nI nn), .ref c0, .ref h, .ref td])), (rs, aR E 24 rf)] := hD
  refine lv_if_eq (tgt := 26) hx hb dX7_row_11 (by decide) (fun c8 => absurd c8 (b1_n.mpr (hv))) (fun c8 => ?_)
  refine lv_aload_n hx hb dX7_row_14 rfl (lv_at hl 0 rfl) ?_
  refine va_get (D := E.1) (ci := 8) (v := .int (nI nn)) (C := RX7) (T := TX7) (N := 7) hx hb hts hiX7 hown hev.1 hP 0 rfl rfl 3 (by decide) hf29 (fun _ h9 => h9) rfl dX7_row_15 ?_
  refine lv_aload_n hx hb dX7_row_18 rfl (lv_at hl 0 rfl) ?_
  refine va_get (D := E.1) (ci := 8) (v := .ref rs) (C := RX7) (T := TX7) (N := 7) hx hb hts hiX7 hown hev.1 hP 0 rfl rfl 2 (by decide) hf25 (fun _ h9 => h9) rfl dX7_row_19 ?_
  refine va_alen (v := 24) hx hb hev.1 hP 1 4 rfl rfl rfl dX7_row_22 ?_
  refine lv_icmp_lt (tgt := 28) hx hb dX7_row_23 (by decide) (fun c9 => ?_) (fun c9 => absurd ((nI_ltI (a := nn) (b := 24) (by omega) (by omega)).mpr (by omega)) c9)
  refine va_new (ci := 5) (fs := [.int 0, .int 0, .int 0, .long 0, .null, .int 0, .null, .null, .null, .null, .int 0, .int 0, .int 0]) (C := RX4) (T := TX4) (N := 13) hx hb hts hiX4 tyX4 tyX4_ok hown hcl23 hinX4 hiniX4 hev.1 hP hD hS hA rfl (by decide) (Nat.le_of_ble_eq_true rfl) (Nat.le_of_ble_eq_true rfl) dX7_row_28 (fun q10 H hP hD hS => ?_)
  have hP : va_P E.1 vwCl [(x, .inr (8, [.ref rg, .ref dr, .ref rs, .int (nI nn), .ref c0, .ref h, .ref td])), (rs, aR E 24 rf), (q10, .inr (5, [.int 0, .int 0, .int 0, .long 0, .null, .int 0, .null, .null, .null, .null, .int 0, .int 0, .int 0]))] H := hP
  have hD : va_D A [(x, .inr (8, [.ref rg, .ref dr, .ref rs, .int (nI nn), .ref c0, .ref h, .ref td])), (rs, aR E 24 rf), (q10, .inr (5, [.int 0, .int 0, .int 0, .long 0, .null, .int 0, .null, .null, .null, .null, .int 0, .int 0, .int 0]))] := hD
  refine lv_dup hx hb dX7_row_31 rfl ?_
  refine lv_aload_n hx hb dX7_row_32 rfl (lv_at hl 0 rfl) ?_
  refine va_get (D := E.1) (ci := 8) (v := .int (nI nn)) (C := RX7) (T := TX7) (N := 7) hx hb hts hiX7 hown hev.1 hP 0 rfl rfl 3 (by decide) hf29 (fun _ h9 => h9) rfl dX7_row_33 ?_
  refine lv_iload_n hx hb dX7_row_36 rfl (lv_at hl 1 rfl) ?_
  refine lv_iload_n hx hb dX7_row_37 rfl (lv_at hl 2 rfl) ?_
  refine lv_lload_n hx hb dX7_row_38 rfl (lv_at hl 3 rfl) ?_
  have hP := hP.sub (ws' := [(q10, .inr (5, [.int 0, .int 0, .int 0, .long 0, .null, .int 0, .null, .null, .null, .null, .int 0, .int 0, .int 0]))] ++ [(x, .inr (8, [.ref rg, .ref dr, .ref rs, .int (nI nn), .ref c0, .ref h, .ref td])), (rs, aR E 24 rf)]) [2, 0, 1] rfl
  have hD := hD.sub (ws' := [(q10, .inr (5, [.int 0, .int 0, .int 0, .long 0, .null, .int 0, .null, .null, .null, .null, .int 0, .int 0, .int 0]))] ++ [(x, .inr (8, [.ref rg, .ref dr, .ref rs, .int (nI nn), .ref c0, .ref h, .ref td])), (rs, aR E 24 rf)]) [2, 0, 1] (by decide) rfl
  refine xcv (va_runI (As := [.int (nI nn), .int (nI j), .int v, .long u]) (rest := [.ref q10]) ⟨hx, hb, hml, hown, hts⟩ (kX4_init l E q10 (nI nn) (nI j) v u  H.size) (cwI 4 hts gX7_row_X4_init rfl rfl rfl hiniX4 hml73 himX4_init rfl (by decide +kernel) ⟨Nat.le_of_ble_eq_true rfl, Nat.le_of_ble_eq_true rfl⟩) ⟨CP.blind, (xpre hev hz hA hP hD hS hR0 hap [] rfl)⟩ rfl rfl hl.1 rfl (lv_room (Nat.le_of_ble_eq_true rfl)) dX7_row_39 ⟨Nat.le_of_ble_eq_true rfl, Nat.le_of_ble_eq_true rfl⟩) hP hD hS hA (fun w12 H locs h13 hP hD hS => ?_)
  obtain ⟨oa14, qo15, tq16, dq17, ha18, na19, ma20, ra21, va22, pa23, ta24, ea25, gn26, rfl, h13⟩ := h13
  try dsimp only at h13
  have hP : va_P E.1 vwCl [(q10, .inr (5, [.int (nI nn), .int (nI j), .int v, .long u, .ref oa14, .int 0, .ref qo15, .ref tq16, .ref dq17, .ref ha18, .int 0, .int 0, .int 0])), (oa14, aB E 16 (fun _ => 0)), (qo15, .inr (4, [.ref na19, .ref ma20])), (na19, aI E 10 gn26), (ma20, aI E 10 (fun _ => 0)), (tq16, .inr (7, [.ref ra21, .ref va22, .int 0])), (ra21, aI E 7 (fun _ => 0)), (va22, aI E 7 (fun _ => 0)), (dq17, .inr (2, [.ref pa23, .ref ta24, .ref ea25, .int 0])), (pa23, aI E 6 (fun _ => 0)), (ta24, aI E 6 (fun _ => 0)), (ea25, aZ E 6 (fun _ => 0)), (ha18, aI E 6 (fun _ => 0)), (x, .inr (8, [.ref rg, .ref dr, .ref rs, .int (nI nn), .ref c0, .ref h, .ref td])), (rs, aR E 24 rf)] H := hP
  have hD : va_D A [(q10, .inr (5, [.int (nI nn), .int (nI j), .int v, .long u, .ref oa14, .int 0, .ref qo15, .ref tq16, .ref dq17, .ref ha18, .int 0, .int 0, .int 0])), (oa14, aB E 16 (fun _ => 0)), (qo15, .inr (4, [.ref na19, .ref ma20])), (na19, aI E 10 gn26), (ma20, aI E 10 (fun _ => 0)), (tq16, .inr (7, [.ref ra21, .ref va22, .int 0])), (ra21, aI E 7 (fun _ => 0)), (va22, aI E 7 (fun _ => 0)), (dq17, .inr (2, [.ref pa23, .ref ta24, .ref ea25, .int 0])), (pa23, aI E 6 (fun _ => 0)), (ta24, aI E 6 (fun _ => 0)), (ea25, aZ E 6 (fun _ => 0)), (ha18, aI E 6 (fun _ => 0)), (x, .inr (8, [.ref rg, .ref dr, .ref rs, .int (nI nn), .ref c0, .ref h, .ref td])), (rs, aR E 24 rf)] := hD
  refine lv_astore (lv' := [(5, .ref q10), (0, .ref x), (1, .int (nI j)), (2, .int v), (3, .long u)]) hx hb dX7_row_42 hl (by decide) rfl (fun ls hl => ?_)
  refine lv_iload_n hx hb dX7_row_44 rfl (lv_at hl 2 rfl) ?_
  refine lv_if_ne (tgt := 60) hx hb dX7_row_45 (by decide) (fun c27 => ?_) (fun c27 => ?_)
  · skip
    have kc27 : ¬ j = 0 := fun h9 => c27 ((nI_eq (a := j) (b := 0) (by omega) (by omega)).mpr h9)
    refine lv_aload_n hx hb dX7_row_60 rfl (lv_at hl 1 rfl) ?_
    refine va_get (D := E.1) (ci := 8) (v := .ref rs) (C := RX7) (T := TX7) (N := 7) hx hb hts hiX7 hown hev.1 hP 13 rfl rfl 2 (by decide) hf25 (fun _ h9 => h9) rfl dX7_row_61 ?_
    refine lv_aload_n hx hb dX7_row_64 rfl (lv_at hl 1 rfl) ?_
    refine va_get (D := E.1) (ci := 8) (v := .int (nI nn)) (C := RX7) (T := TX7) (N := 7) hx hb hts hiX7 hown hev.1 hP 13 rfl rfl 3 (by decide) hf29 (fun _ h9 => h9) rfl dX7_row_65 ?_
    refine lv_aload hx hb dX7_row_68 (lv_at hl 0 rfl) ?_
    refine xastq (k := nn) (r := (RX4, TX4, 13)) hx hb hev.1 hP hD hS 14 4 0 5 rfl rfl rfl rfl (by omega) (by decide) dX7_row_70 (fun H locs hP hD hS => ?_)
    obtain ⟨f28, ef28⟩ : ∃ y9_ : Nat → Option Nat, y9_ = va_up rf nn (some q10) := ⟨_, rfl⟩
    rw [← ef28] at hP hD
    have hP : va_P E.1 vwCl [(q10, .inr (5, [.int (nI nn), .int (nI j), .int v, .long u, .ref oa14, .int 0, .ref qo15, .ref tq16, .ref dq17, .ref ha18, .int 0, .int 0, .int 0])), (oa14, aB E 16 (fun _ => 0)), (qo15, .inr (4, [.ref na19, .ref ma20])), (na19, aI E 10 gn26), (ma20, aI E 10 (fun _ => 0)), (tq16, .inr (7, [.ref ra21, .ref va22, .int 0])), (ra21, aI E 7 (fun _ => 0)), (va22, aI E 7 (fun _ => 0)), (dq17, .inr (2, [.ref pa23, .ref ta24, .ref ea25, .int 0])), (pa23, aI E 6 (fun _ => 0)), (ta24, aI E 6 (fun _ => 0)), (ea25, aZ E 6 (fun _ => 0)), (ha18, aI E 6 (fun _ => 0)), (x, .inr (8, [.ref rg, .ref dr, .ref rs, .int (nI nn), .ref c0, .ref h, .ref td])), (rs, aR E 24 f28)] H := hP
    have hD : va_D A [(q10, .inr (5, [.int (nI nn), .int (nI j), .int v, .long u, .ref oa14, .int 0, .ref qo15, .ref tq16, .ref dq17, .ref ha18, .int 0, .int 0, .int 0])), (oa14, aB E 16 (fun _ => 0)), (qo15, .inr (4, [.ref na19, .ref ma20])), (na19, aI E 10 gn26), (ma20, aI E 10 (fun _ => 0)), (tq16, .inr (7, [.ref ra21, .ref va22, .int 0])), (ra21, aI E 7 (fun _ => 0)), (va22, aI E 7 (fun _ => 0)), (dq17, .inr (2, [.ref pa23, .ref ta24, .ref ea25, .int 0])), (pa23, aI E 6 (fun _ => 0)), (ta24, aI E 6 (fun _ => 0)), (ea25, aZ E 6 (fun _ => 0)), (ha18, aI E 6 (fun _ => 0)), (x, .inr (8, [.ref rg, .ref dr, .ref rs, .int (nI nn), .ref c0, .ref h, .ref td])), (rs, aR E 24 f28)] := hD
    refine lv_aload_n hx hb dX7_row_71 rfl (lv_at hl 1 rfl) ?_
    refine lv_dup hx hb dX7_row_72 rfl ?_
    refine va_get (D := E.1) (ci := 8) (v := .int (nI nn)) (C := RX7) (T := TX7) (N := 7) hx hb hts hiX7 hown hev.1 hP 13 rfl rfl 3 (by decide) hf29 (fun _ h9 => h9) rfl dX7_row_73 ?_
    refine lv_iconst (v := 1) hx hb dX7_row_76 (by decide) ?_
    refine lv_iadd hx hb dX7_row_77 ?_
    refine xtop (y := nI (nn + 1)) ((nI_add nn 1).trans (congrArg nI (by omega))) ?_
    refine va_put (D := E.1) (ci := 8) (v := .int (nI (nn + 1))) (ty := tyX7 3) (C := RX7) (T := TX7) (N := 7) hx hb hts hiX7 tyX7 tyX7_ok nmX7 hown hev.1 hP hD hS 13 rfl rfl 3 (by decide) hf29 (fun _ h9 => h9) rfl (tyX7_ok 3 (by decide)) rfl rfl (Nat.le_of_ble_eq_true rfl) dX7_row_78 (fun H locs hP hD hS => ?_)
    have hP : va_P E.1 vwCl [(q10, .inr (5, [.int (nI nn), .int (nI j), .int v, .long u, .ref oa14, .int 0, .ref qo15, .ref tq16, .ref dq17, .ref ha18, .int 0, .int 0, .int 0])), (oa14, aB E 16 (fun _ => 0)), (qo15, .inr (4, [.ref na19, .ref ma20])), (na19, aI E 10 gn26), (ma20, aI E 10 (fun _ => 0)), (tq16, .inr (7, [.ref ra21, .ref va22, .int 0])), (ra21, aI E 7 (fun _ => 0)), (va22, aI E 7 (fun _ => 0)), (dq17, .inr (2, [.ref pa23, .ref ta24, .ref ea25, .int 0])), (pa23, aI E 6 (fun _ => 0)), (ta24, aI E 6 (fun _ => 0)), (ea25, aZ E 6 (fun _ => 0)), (ha18, aI E 6 (fun _ => 0)), (x, .inr (8, [.ref rg, .ref dr, .ref rs, .int (nI (nn + 1)), .ref c0, .ref h, .ref td])), (rs, aR E 24 f28)] H := hP
    have hD : va_D A [(q10, .inr (5, [.int (nI nn), .int (nI j), .int v, .long u, .ref oa14, .int 0, .ref qo15, .ref tq16, .ref dq17, .ref ha18, .int 0, .int 0, .int 0])), (oa14, aB E 16 (fun _ => 0)), (qo15, .inr (4, [.ref na19, .ref ma20])), (na19, aI E 10 gn26), (ma20, aI E 10 (fun _ => 0)), (tq16, .inr (7, [.ref ra21, .ref va22, .int 0])), (ra21, aI E 7 (fun _ => 0)), (va22, aI E 7 (fun _ => 0)), (dq17, .inr (2, [.ref pa23, .ref ta24, .ref ea25, .int 0])), (pa23, aI E 6 (fun _ => 0)), (ta24, aI E 6 (fun _ => 0)), (ea25, aZ E 6 (fun _ => 0)), (ha18, aI E 6 (fun _ => 0)), (x, .inr (8, [.ref rg, .ref dr, .ref rs, .int (nI (nn + 1)), .ref c0, .ref h, .ref td])), (rs, aR E 24 f28)] := hD
    refine lv_aload hx hb dX7_row_81 (lv_at hl 0 rfl) ?_
    refine va_getN (D := E.1) (ci := 5) (v := .int (nI nn)) (C := RX4) (T := TX4) (N := 13) hx hb hts hiX4 hown hev.1 hP 0 rfl rfl 0 (by decide) (xNF6 hev.2.1) (fun _ h9 => h9) rfl dX7_row_83 ?_
    refine xri hx hb hr hlocks (hP.sub (ws' := [(x, .inr (8, [.ref rg, .ref dr, .ref rs, .int (nI (nn + 1)), .ref c0, .ref h, .ref td])), (rs, aR E 24 f28), (q10, .inr (5, [.int (nI nn), .int (nI j), .int v, .long u, .ref oa14, .int 0, .ref qo15, .ref tq16, .ref dq17, .ref ha18, .int 0, .int 0, .int 0])), (oa14, aB E 16 (fun _ => 0)), (qo15, .inr (4, [.ref na19, .ref ma20])), (na19, aI E 10 gn26), (ma20, aI E 10 (fun _ => 0)), (tq16, .inr (7, [.ref ra21, .ref va22, .int 0])), (ra21, aI E 7 (fun _ => 0)), (va22, aI E 7 (fun _ => 0)), (dq17, .inr (2, [.ref pa23, .ref ta24, .ref ea25, .int 0])), (pa23, aI E 6 (fun _ => 0)), (ta24, aI E 6 (fun _ => 0)), (ea25, aZ E 6 (fun _ => 0)), (ha18, aI E 6 (fun _ => 0))]) [13, 14, 0, 1, 2, 3, 4, 5, 6, 7, 8, 9, 10, 11, 12] rfl) (hD.sub (ws' := [(x, .inr (8, [.ref rg, .ref dr, .ref rs, .int (nI (nn + 1)), .ref c0, .ref h, .ref td])), (rs, aR E 24 f28), (q10, .inr (5, [.int (nI nn), .int (nI j), .int v, .long u, .ref oa14, .int 0, .ref qo15, .ref tq16, .ref dq17, .ref ha18, .int 0, .int 0, .int 0])), (oa14, aB E 16 (fun _ => 0)), (qo15, .inr (4, [.ref na19, .ref ma20])), (na19, aI E 10 gn26), (ma20, aI E 10 (fun _ => 0)), (tq16, .inr (7, [.ref ra21, .ref va22, .int 0])), (ra21, aI E 7 (fun _ => 0)), (va22, aI E 7 (fun _ => 0)), (dq17, .inr (2, [.ref pa23, .ref ta24, .ref ea25, .int 0])), (pa23, aI E 6 (fun _ => 0)), (ta24, aI E 6 (fun _ => 0)), (ea25, aZ E 6 (fun _ => 0)), (ha18, aI E 6 (fun _ => 0))]) [13, 14, 0, 1, 2, 3, 4, 5, 6, 7, 8, 9, 10, 11, 12] (by decide) rfl) hS ⟨f28, q10, oa14, qo15, tq16, dq17, ha18, na19, ma20, ra21, va22, pa23, ta24, ea25, gn26, (fun _ => 0), rfl, ?_, ?_⟩ dX7_row_86
    · rfl
    · exact ⟨by assumption, fun h9 => absurd h9 kc27⟩
  · skip
    have kc27 : j = 0 := (nI_eq (a := j) (b := 0) (by omega) (by omega)).mp c27
    refine lv_aload hx hb dX7_row_48 (lv_at hl 0 rfl) ?_
    refine va_getN (D := E.1) (ci := 5) (v := .ref qo15) (C := RX4) (T := TX4) (N := 13) hx hb hts hiX4 hown hev.1 hP 0 rfl rfl 6 (by decide) (xNF11 hev.2.1) (fun _ h9 => h9) rfl dX7_row_50 ?_
    refine lv_aload_n hx hb dX7_row_53 rfl (lv_at hl 1 rfl) ?_
    refine va_get (D := E.1) (ci := 8) (v := .ref dr) (C := RX7) (T := TX7) (N := 7) hx hb hts hiX7 hown hev.1 hP 13 rfl rfl 1 (by decide) hf19 (fun _ h9 => h9) rfl dX7_row_54 ?_
    have hP := hP.sub (ws' := [(na19, aI E 10 gn26), (ma20, aI E 10 (fun _ => 0))] ++ [(q10, .inr (5, [.int (nI nn), .int (nI j), .int v, .long u, .ref oa14, .int 0, .ref qo15, .ref tq16, .ref dq17, .ref ha18, .int 0, .int 0, .int 0])), (oa14, aB E 16 (fun _ => 0)), (qo15, .inr (4, [.ref na19, .ref ma20])), (tq16, .inr (7, [.ref ra21, .ref va22, .int 0])), (ra21, aI E 7 (fun _ => 0)), (va22, aI E 7 (fun _ => 0)), (dq17, .inr (2, [.ref pa23, .ref ta24, .ref ea25, .int 0])), (pa23, aI E 6 (fun _ => 0)), (ta24, aI E 6 (fun _ => 0)), (ea25, aZ E 6 (fun _ => 0)), (ha18, aI E 6 (fun _ => 0)), (x, .inr (8, [.ref rg, .ref dr, .ref rs, .int (nI nn), .ref c0, .ref h, .ref td])), (rs, aR E 24 rf)]) [3, 4, 0, 1, 2, 5, 6, 7, 8, 9, 10, 11, 12, 13, 14] rfl
    have hD := hD.sub (ws' := [(na19, aI E 10 gn26), (ma20, aI E 10 (fun _ => 0))] ++ [(q10, .inr (5, [.int (nI nn), .int (nI j), .int v, .long u, .ref oa14, .int 0, .ref qo15, .ref tq16, .ref dq17, .ref ha18, .int 0, .int 0, .int 0])), (oa14, aB E 16 (fun _ => 0)), (qo15, .inr (4, [.ref na19, .ref ma20])), (tq16, .inr (7, [.ref ra21, .ref va22, .int 0])), (ra21, aI E 7 (fun _ => 0)), (va22, aI E 7 (fun _ => 0)), (dq17, .inr (2, [.ref pa23, .ref ta24, .ref ea25, .int 0])), (pa23, aI E 6 (fun _ => 0)), (ta24, aI E 6 (fun _ => 0)), (ea25, aZ E 6 (fun _ => 0)), (ha18, aI E 6 (fun _ => 0)), (x, .inr (8, [.ref rg, .ref dr, .ref rs, .int (nI nn), .ref c0, .ref h, .ref td])), (rs, aR E 24 rf)]) [3, 4, 0, 1, 2, 5, 6, 7, 8, 9, 10, 11, 12, 13, 14] (by decide) rfl
    refine xcv (va_runV (As := [.ref dr]) (rest := []) ⟨hx, hb, hml, hown, hts⟩ (kX3_copyFrom l E qo15 na19 ma20 gn26 (fun _ => 0) dr na ma fn fm  H.size) (cwV 1 hts gX7_row_X3_copyFrom rfl rfl rfl (by decide +kernel) ⟨Nat.le_of_ble_eq_true rfl, Nat.le_of_ble_eq_true rfl⟩) ⟨CP.blind, (va_recv hev.1 hP (ci := 4) (q0 := 4) rfl rfl), (xpre hev hz hA hP hD hS hR0 hap [2, 13, 14, 15] rfl)⟩ rfl rfl hl.1 rfl (lv_room (Nat.le_of_ble_eq_true rfl)) dX7_row_57 ⟨Nat.le_of_ble_eq_true rfl, Nat.le_of_ble_eq_true rfl⟩) hP hD hS hA (fun w30 H locs h31 hP hD hS => ?_)
    obtain ⟨gn32, gm33, rfl, h31⟩ := h31
    try dsimp only at h31
    have hP : va_P E.1 vwCl [(na19, aI E 10 gn32), (ma20, aI E 10 gm33), (q10, .inr (5, [.int (nI nn), .int (nI j), .int v, .long u, .ref oa14, .int 0, .ref qo15, .ref tq16, .ref dq17, .ref ha18, .int 0, .int 0, .int 0])), (oa14, aB E 16 (fun _ => 0)), (qo15, .inr (4, [.ref na19, .ref ma20])), (tq16, .inr (7, [.ref ra21, .ref va22, .int 0])), (ra21, aI E 7 (fun _ => 0)), (va22, aI E 7 (fun _ => 0)), (dq17, .inr (2, [.ref pa23, .ref ta24, .ref ea25, .int 0])), (pa23, aI E 6 (fun _ => 0)), (ta24, aI E 6 (fun _ => 0)), (ea25, aZ E 6 (fun _ => 0)), (ha18, aI E 6 (fun _ => 0)), (x, .inr (8, [.ref rg, .ref dr, .ref rs, .int (nI nn), .ref c0, .ref h, .ref td])), (rs, aR E 24 rf)] H := hP
    have hD : va_D A [(na19, aI E 10 gn32), (ma20, aI E 10 gm33), (q10, .inr (5, [.int (nI nn), .int (nI j), .int v, .long u, .ref oa14, .int 0, .ref qo15, .ref tq16, .ref dq17, .ref ha18, .int 0, .int 0, .int 0])), (oa14, aB E 16 (fun _ => 0)), (qo15, .inr (4, [.ref na19, .ref ma20])), (tq16, .inr (7, [.ref ra21, .ref va22, .int 0])), (ra21, aI E 7 (fun _ => 0)), (va22, aI E 7 (fun _ => 0)), (dq17, .inr (2, [.ref pa23, .ref ta24, .ref ea25, .int 0])), (pa23, aI E 6 (fun _ => 0)), (ta24, aI E 6 (fun _ => 0)), (ea25, aZ E 6 (fun _ => 0)), (ha18, aI E 6 (fun _ => 0)), (x, .inr (8, [.ref rg, .ref dr, .ref rs, .int (nI nn), .ref c0, .ref h, .ref td])), (rs, aR E 24 rf)] := hD
    refine lv_aload_n hx hb dX7_row_60 rfl (lv_at hl 1 rfl) ?_
    refine va_get (D := E.1) (ci := 8) (v := .ref rs) (C := RX7) (T := TX7) (N := 7) hx hb hts hiX7 hown hev.1 hP 13 rfl rfl 2 (by decide) hf25 (fun _ h9 => h9) rfl dX7_row_61 ?_
    refine lv_aload_n hx hb dX7_row_64 rfl (lv_at hl 1 rfl) ?_
    refine va_get (D := E.1) (ci := 8) (v := .int (nI nn)) (C := RX7) (T := TX7) (N := 7) hx hb hts hiX7 hown hev.1 hP 13 rfl rfl 3 (by decide) hf29 (fun _ h9 => h9) rfl dX7_row_65 ?_
    refine lv_aload hx hb dX7_row_68 (lv_at hl 0 rfl) ?_
    refine xastq (k := nn) (r := (RX4, TX4, 13)) hx hb hev.1 hP hD hS 14 4 2 5 rfl rfl rfl rfl (by omega) (by decide) dX7_row_70 (fun H locs hP hD hS => ?_)
    obtain ⟨f34, ef34⟩ : ∃ y9_ : Nat → Option Nat, y9_ = va_up rf nn (some q10) := ⟨_, rfl⟩
    rw [← ef34] at hP hD
    have hP : va_P E.1 vwCl [(na19, aI E 10 gn32), (ma20, aI E 10 gm33), (q10, .inr (5, [.int (nI nn), .int (nI j), .int v, .long u, .ref oa14, .int 0, .ref qo15, .ref tq16, .ref dq17, .ref ha18, .int 0, .int 0, .int 0])), (oa14, aB E 16 (fun _ => 0)), (qo15, .inr (4, [.ref na19, .ref ma20])), (tq16, .inr (7, [.ref ra21, .ref va22, .int 0])), (ra21, aI E 7 (fun _ => 0)), (va22, aI E 7 (fun _ => 0)), (dq17, .inr (2, [.ref pa23, .ref ta24, .ref ea25, .int 0])), (pa23, aI E 6 (fun _ => 0)), (ta24, aI E 6 (fun _ => 0)), (ea25, aZ E 6 (fun _ => 0)), (ha18, aI E 6 (fun _ => 0)), (x, .inr (8, [.ref rg, .ref dr, .ref rs, .int (nI nn), .ref c0, .ref h, .ref td])), (rs, aR E 24 f34)] H := hP
    have hD : va_D A [(na19, aI E 10 gn32), (ma20, aI E 10 gm33), (q10, .inr (5, [.int (nI nn), .int (nI j), .int v, .long u, .ref oa14, .int 0, .ref qo15, .ref tq16, .ref dq17, .ref ha18, .int 0, .int 0, .int 0])), (oa14, aB E 16 (fun _ => 0)), (qo15, .inr (4, [.ref na19, .ref ma20])), (tq16, .inr (7, [.ref ra21, .ref va22, .int 0])), (ra21, aI E 7 (fun _ => 0)), (va22, aI E 7 (fun _ => 0)), (dq17, .inr (2, [.ref pa23, .ref ta24, .ref ea25, .int 0])), (pa23, aI E 6 (fun _ => 0)), (ta24, aI E 6 (fun _ => 0)), (ea25, aZ E 6 (fun _ => 0)), (ha18, aI E 6 (fun _ => 0)), (x, .inr (8, [.ref rg, .ref dr, .ref rs, .int (nI nn), .ref c0, .ref h, .ref td])), (rs, aR E 24 f34)] := hD
    refine lv_aload_n hx hb dX7_row_71 rfl (lv_at hl 1 rfl) ?_
    refine lv_dup hx hb dX7_row_72 rfl ?_
    refine va_get (D := E.1) (ci := 8) (v := .int (nI nn)) (C := RX7) (T := TX7) (N := 7) hx hb hts hiX7 hown hev.1 hP 13 rfl rfl 3 (by decide) hf29 (fun _ h9 => h9) rfl dX7_row_73 ?_
    refine lv_iconst (v := 1) hx hb dX7_row_76 (by decide) ?_
    refine lv_iadd hx hb dX7_row_77 ?_
    refine xtop (y := nI (nn + 1)) ((nI_add nn 1).trans (congrArg nI (by omega))) ?_
    refine va_put (D := E.1) (ci := 8) (v := .int (nI (nn + 1))) (ty := tyX7 3) (C := RX7) (T := TX7) (N := 7) hx hb hts hiX7 tyX7 tyX7_ok nmX7 hown hev.1 hP hD hS 13 rfl rfl 3 (by decide) hf29 (fun _ h9 => h9) rfl (tyX7_ok 3 (by decide)) rfl rfl (Nat.le_of_ble_eq_true rfl) dX7_row_78 (fun H locs hP hD hS => ?_)
    have hP : va_P E.1 vwCl [(na19, aI E 10 gn32), (ma20, aI E 10 gm33), (q10, .inr (5, [.int (nI nn), .int (nI j), .int v, .long u, .ref oa14, .int 0, .ref qo15, .ref tq16, .ref dq17, .ref ha18, .int 0, .int 0, .int 0])), (oa14, aB E 16 (fun _ => 0)), (qo15, .inr (4, [.ref na19, .ref ma20])), (tq16, .inr (7, [.ref ra21, .ref va22, .int 0])), (ra21, aI E 7 (fun _ => 0)), (va22, aI E 7 (fun _ => 0)), (dq17, .inr (2, [.ref pa23, .ref ta24, .ref ea25, .int 0])), (pa23, aI E 6 (fun _ => 0)), (ta24, aI E 6 (fun _ => 0)), (ea25, aZ E 6 (fun _ => 0)), (ha18, aI E 6 (fun _ => 0)), (x, .inr (8, [.ref rg, .ref dr, .ref rs, .int (nI (nn + 1)), .ref c0, .ref h, .ref td])), (rs, aR E 24 f34)] H := hP
    have hD : va_D A [(na19, aI E 10 gn32), (ma20, aI E 10 gm33), (q10, .inr (5, [.int (nI nn), .int (nI j), .int v, .long u, .ref oa14, .int 0, .ref qo15, .ref tq16, .ref dq17, .ref ha18, .int 0, .int 0, .int 0])), (oa14, aB E 16 (fun _ => 0)), (qo15, .inr (4, [.ref na19, .ref ma20])), (tq16, .inr (7, [.ref ra21, .ref va22, .int 0])), (ra21, aI E 7 (fun _ => 0)), (va22, aI E 7 (fun _ => 0)), (dq17, .inr (2, [.ref pa23, .ref ta24, .ref ea25, .int 0])), (pa23, aI E 6 (fun _ => 0)), (ta24, aI E 6 (fun _ => 0)), (ea25, aZ E 6 (fun _ => 0)), (ha18, aI E 6 (fun _ => 0)), (x, .inr (8, [.ref rg, .ref dr, .ref rs, .int (nI (nn + 1)), .ref c0, .ref h, .ref td])), (rs, aR E 24 f34)] := hD
    refine lv_aload hx hb dX7_row_81 (lv_at hl 0 rfl) ?_
    refine va_getN (D := E.1) (ci := 5) (v := .int (nI nn)) (C := RX4) (T := TX4) (N := 13) hx hb hts hiX4 hown hev.1 hP 2 rfl rfl 0 (by decide) (xNF6 hev.2.1) (fun _ h9 => h9) rfl dX7_row_83 ?_
    refine xri hx hb hr hlocks (hP.sub (ws' := [(x, .inr (8, [.ref rg, .ref dr, .ref rs, .int (nI (nn + 1)), .ref c0, .ref h, .ref td])), (rs, aR E 24 f34), (q10, .inr (5, [.int (nI nn), .int (nI j), .int v, .long u, .ref oa14, .int 0, .ref qo15, .ref tq16, .ref dq17, .ref ha18, .int 0, .int 0, .int 0])), (oa14, aB E 16 (fun _ => 0)), (qo15, .inr (4, [.ref na19, .ref ma20])), (na19, aI E 10 gn32), (ma20, aI E 10 gm33), (tq16, .inr (7, [.ref ra21, .ref va22, .int 0])), (ra21, aI E 7 (fun _ => 0)), (va22, aI E 7 (fun _ => 0)), (dq17, .inr (2, [.ref pa23, .ref ta24, .ref ea25, .int 0])), (pa23, aI E 6 (fun _ => 0)), (ta24, aI E 6 (fun _ => 0)), (ea25, aZ E 6 (fun _ => 0)), (ha18, aI E 6 (fun _ => 0))]) [13, 14, 2, 3, 4, 0, 1, 5, 6, 7, 8, 9, 10, 11, 12] rfl) (hD.sub (ws' := [(x, .inr (8, [.ref rg, .ref dr, .ref rs, .int (nI (nn + 1)), .ref c0, .ref h, .ref td])), (rs, aR E 24 f34), (q10, .inr (5, [.int (nI nn), .int (nI j), .int v, .long u, .ref oa14, .int 0, .ref qo15, .ref tq16, .ref dq17, .ref ha18, .int 0, .int 0, .int 0])), (oa14, aB E 16 (fun _ => 0)), (qo15, .inr (4, [.ref na19, .ref ma20])), (na19, aI E 10 gn32), (ma20, aI E 10 gm33), (tq16, .inr (7, [.ref ra21, .ref va22, .int 0])), (ra21, aI E 7 (fun _ => 0)), (va22, aI E 7 (fun _ => 0)), (dq17, .inr (2, [.ref pa23, .ref ta24, .ref ea25, .int 0])), (pa23, aI E 6 (fun _ => 0)), (ta24, aI E 6 (fun _ => 0)), (ea25, aZ E 6 (fun _ => 0)), (ha18, aI E 6 (fun _ => 0))]) [13, 14, 2, 3, 4, 0, 1, 5, 6, 7, 8, 9, 10, 11, 12] (by decide) rfl) hS ⟨f34, q10, oa14, qo15, tq16, dq17, ha18, na19, ma20, ra21, va22, pa23, ta24, ea25, gn32, gm33, rfl, ?_, ?_⟩ dX7_row_86
    · rfl
    · exact ⟨by assumption, fun _ => h31⟩
