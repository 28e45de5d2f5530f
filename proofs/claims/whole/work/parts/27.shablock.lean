abbrev pX5_closeMessage (E : xE) (h : Nat) (ms : Nat) (sc : Nat) (sa : Nat) (n : Nat) (f : Nat → Int32) (e9 : Nat) (w : va_W) : Prop := ∃ (g : Nat → Int32), w = [(ms, aB E 128 g)] ∧ (∀ j, j < e9 → g j = padc f n e9 j)
set_option maxHeartbeats 4000000 in
set_option maxRecDepth 100000 in
theorem kX5_closeMessage (l : Launch) (E : xE) (h : Nat) (ms : Nat) (sc : Nat) (sa : Nat) (n : Nat) (f : Nat → Int32) (e9 : Nat) (hn : n + 9 ≤ e9) (he : e9 ≤ 128) : KT l yX5_closeMessage wsX5_closeMessage 0 0 0 0 E [(ms, aB E 128 f)] [(h, .inr (6, [.ref ms, .ref sc, .ref sa, .int (nI n)]))] [.ref h, .int (nI e9)] (QV E (pX5_closeMessage E h ms sc sa n f e9)) := by
  refine KT.start (cc := cX5_closeMessage) (maxL := 3) (ret := none) (by decide) rfl (Nat.le_of_ble_eq_true rfl) ?_
  intro p e s m below meth c A H hx hb hr hlocks hml hts hown hin hP hR0 hD hap hev hz hA hS ls hl
  have hl : lv_has ls 3 [(0, .ref h), (1, .int (nI e9))] := hl
  have hiX5 : ∀ w ∈ wsX50, w ∈ wsX5_closeMessage := by decide +kernel
  have hf11 := hts (.fieldLink RX5 11 "SignQuorum$Sha256" "message" "[B") (by decide +kernel)
  have hf22 := hts (.fieldLink RX5 22 "SignQuorum$Sha256" "length" "I") (by decide +kernel)
  refine lv_aload_n hx hb dX5_closeMessage_0 rfl (lv_at hl 0 rfl) ?_
  refine va_get (D := E.1) (ci := 6) (v := .ref ms) (C := RX5) (T := TX5) (N := 4) hx hb hts hiX5 hown hev.1 (xro hR0 hap hS) 0 rfl rfl 0 (by decide) hf11 (fun _ h9 => h9) rfl dX5_closeMessage_1 ?_
  refine lv_aload_n hx hb dX5_closeMessage_4 rfl (lv_at hl 0 rfl) ?_
  refine va_get (D := E.1) (ci := 6) (v := .int (nI n)) (C := RX5) (T := TX5) (N := 4) hx hb hts hiX5 hown hev.1 (xro hR0 hap hS) 0 rfl rfl 3 (by decide) hf22 (fun _ h9 => h9) rfl dX5_closeMessage_5 ?_
  refine lv_bipush (v := (-128)) hx hb dX5_closeMessage_8 (by decide) ?_
  refine xbast (k := n) hx hb hev.1 hP hD hS 0 0 rfl rfl (by omega) (by decide) dX5_closeMessage_10 (fun H locs hP hD hS => ?_)
  obtain ⟨f1, ef1⟩ : ∃ y9_ : Nat → Int32, y9_ = upd f n (vp_nar .byte (-128)) := ⟨_, rfl⟩
  rw [← ef1] at hP hD
  have hP : va_P E.1 vwCl [(ms, aB E 128 f1)] H := hP
  have hD : va_D A [(ms, aB E 128 f1)] := hD
  refine lv_aload_n hx hb dX5_closeMessage_11 rfl (lv_at hl 0 rfl) ?_
  refine va_get (D := E.1) (ci := 6) (v := .int (nI n)) (C := RX5) (T := TX5) (N := 4) hx hb hts hiX5 hown hev.1 (xro hR0 hap hS) 0 rfl rfl 3 (by decide) hf22 (fun _ h9 => h9) rfl dX5_closeMessage_12 ?_
  refine lv_iconst (v := 1) hx hb dX5_closeMessage_15 (by decide) ?_
  refine lv_iadd hx hb dX5_closeMessage_16 ?_
  refine xtop (y := nI (n + 1)) ((nI_add n 1).trans (congrArg nI (by omega))) ?_
  refine lv_istore_n (lv' := [(2, .int (nI (n + 1))), (0, .ref h), (1, .int (nI e9))]) hx hb dX5_closeMessage_17 rfl hl (by decide) rfl (fun ls hl => ?_)
  have loop18 : ∀ (fz : Nat) (i : Nat) (g : Nat → Int32), (n + 1 ≤ i ∧ i ≤ e9) → (∀ j, j < i → g j = if j < n then f j else if j = n then -128 else 0) → (e9 - i < fz) → ∀ (H : Heap) (locs : List Loc), va_P E.1 vwCl [(ms, aB E 128 g)] H → va_D A [(ms, aB E 128 g)] → va_S A s.heap H locs → ∀ ls : Array Slot, lv_has ls 3 [(2, .int (nI i)), (0, .ref h), (1, .int (nI e9))] → W p l e ({ frames := 0, cells := 0, slots := 0, locals := 0 } : Room) s m ([.ref h, .int (nI e9)] : List Value).toArray below meth c H locs 0 0 (MQ below (QV E (pX5_closeMessage E h ms sc sa n f e9) A) ([.ref h, .int (nI e9)] : List Value).toArray s 0 0 A) (F0 m 18 ls []) := by
    intro fz
    induction fz with
    | zero =>
      intro i g hi hg hfuel
      exact absurd hfuel (by omega)
    | succ fz ih =>
      intro i g hi hg hfuel H locs hP hD hS ls hl
      refine lv_iload_n hx hb dX5_closeMessage_18 rfl (lv_at hl 0 rfl) ?_
      refine lv_iload_n hx hb dX5_closeMessage_19 rfl (lv_at hl 2 rfl) ?_
      refine lv_icmp_ge (tgt := 36) hx hb dX5_closeMessage_20 (by decide) (fun c2 => ?_) (fun c2 => ?_)
      · skip
        have kc2 : e9 ≤ i := (nI_leI (a := e9) (b := i) (by omega) (by omega)).mp c2
        refine lv_aload_n hx hb dX5_closeMessage_36 rfl (lv_at hl 1 rfl) ?_
        refine va_get (D := E.1) (ci := 6) (v := .int (nI n)) (C := RX5) (T := TX5) (N := 4) hx hb hts hiX5 hown hev.1 (xro hR0 hap hS) 0 rfl rfl 3 (by decide) hf22 (fun _ h9 => h9) rfl dX5_closeMessage_37 ?_
        refine lv_bipush (v := 8) hx hb dX5_closeMessage_40 (by decide) ?_
        refine lv_imul hx hb dX5_closeMessage_42 ?_
        refine xtop (y := nI (n * 8)) (pk_mul _ _) ?_
        refine lv_istore_n (lv' := [(2, .int (nI (n * 8))), (0, .ref h), (1, .int (nI e9))]) hx hb dX5_closeMessage_43 rfl hl (by decide) rfl (fun ls hl => ?_)
        refine lv_aload_n hx hb dX5_closeMessage_44 rfl (lv_at hl 1 rfl) ?_
        refine va_get (D := E.1) (ci := 6) (v := .ref ms) (C := RX5) (T := TX5) (N := 4) hx hb hts hiX5 hown hev.1 (xro hR0 hap hS) 0 rfl rfl 0 (by decide) hf11 (fun _ h9 => h9) rfl dX5_closeMessage_45 ?_
        refine lv_iload_n hx hb dX5_closeMessage_48 rfl (lv_at hl 2 rfl) ?_
        refine lv_iconst (v := 2) hx hb dX5_closeMessage_49 (by decide) ?_
        refine lv_isub hx hb dX5_closeMessage_50 ?_
        refine xtop (y := nI (e9 - 2)) (pk_sub (a := e9) (b := 2) (by omega)) ?_
        refine lv_iload_n hx hb dX5_closeMessage_51 rfl (lv_at hl 0 rfl) ?_
        refine lv_bipush (v := 8) hx hb dX5_closeMessage_52 (by decide) ?_
        refine lv_iushr (v := ((nI (n * 8)).toUInt32 >>> ((8 : Int32).toUInt32 &&& Int32.toUInt32 31)).toInt32) hx hb dX5_closeMessage_54 rfl ?_
        refine lv_i2b (v := (((nI (n * 8)).toUInt32 >>> ((8 : Int32).toUInt32 &&& Int32.toUInt32 31)).toInt32).toInt8.toInt32) hx hb dX5_closeMessage_55 rfl ?_
        refine lv_topi (fun v3 ev3 => ?_)
        refine xbast (k := e9 - 2) hx hb hev.1 hP hD hS 0 0 rfl rfl (by omega) (by decide) dX5_closeMessage_56 (fun H locs hP hD hS => ?_)
        obtain ⟨f4, ef4⟩ : ∃ y9_ : Nat → Int32, y9_ = upd g (e9 - 2) (vp_nar .byte v3) := ⟨_, rfl⟩
        rw [← ef4] at hP hD
        have hP : va_P E.1 vwCl [(ms, aB E 128 f4)] H := hP
        have hD : va_D A [(ms, aB E 128 f4)] := hD
        refine lv_aload_n hx hb dX5_closeMessage_57 rfl (lv_at hl 1 rfl) ?_
        refine va_get (D := E.1) (ci := 6) (v := .ref ms) (C := RX5) (T := TX5) (N := 4) hx hb hts hiX5 hown hev.1 (xro hR0 hap hS) 0 rfl rfl 0 (by decide) hf11 (fun _ h9 => h9) rfl dX5_closeMessage_58 ?_
        refine lv_iload_n hx hb dX5_closeMessage_61 rfl (lv_at hl 2 rfl) ?_
        refine lv_iconst (v := 1) hx hb dX5_closeMessage_62 (by decide) ?_
        refine lv_isub hx hb dX5_closeMessage_63 ?_
        refine xtop (y := nI (e9 - 1)) (pk_sub (a := e9) (b := 1) (by omega)) ?_
        refine lv_iload_n hx hb dX5_closeMessage_64 rfl (lv_at hl 0 rfl) ?_
        refine lv_i2b (v := (nI (n * 8)).toInt8.toInt32) hx hb dX5_closeMessage_65 rfl ?_
        refine xbast (k := e9 - 1) hx hb hev.1 hP hD hS 0 0 rfl rfl (by omega) (by decide) dX5_closeMessage_66 (fun H locs hP hD hS => ?_)
        obtain ⟨f5, ef5⟩ : ∃ y9_ : Nat → Int32, y9_ = upd f4 (e9 - 1) (vp_nar .byte ((nI (n * 8)).toInt8.toInt32)) := ⟨_, rfl⟩
        rw [← ef5] at hP hD
        have hP : va_P E.1 vwCl [(ms, aB E 128 f5)] H := hP
        have hD : va_D A [(ms, aB E 128 f5)] := hD
        refine xrv hx hb hr hlocks hP hD hS ⟨f5, rfl, ?_⟩ dX5_closeMessage_67
        intro j hj
        rw [ef5]
        subst_vars
        simp only [upd, padc]
        by_cases h1 : j = e9 - 1
        · subst h1
          rw [if_pos rfl, if_neg (by omega), if_neg (by omega), if_neg (by omega), if_pos rfl, pk_vb]
          rfl
        · rw [if_neg h1]
          by_cases h2 : j = e9 - 2
          · subst h2
            rw [if_pos rfl, if_neg (by omega), if_neg (by omega), if_pos rfl, pk_vb]
            rfl
          · rw [if_neg h2, hg j (by omega), if_neg h2, if_neg h1]
      · skip
        have kc2 : ¬ e9 ≤ i := fun h9 => c2 ((nI_leI (a := e9) (b := i) (by omega) (by omega)).mpr h9)
        refine lv_aload_n hx hb dX5_closeMessage_23 rfl (lv_at hl 1 rfl) ?_
        refine va_get (D := E.1) (ci := 6) (v := .ref ms) (C := RX5) (T := TX5) (N := 4) hx hb hts hiX5 hown hev.1 (xro hR0 hap hS) 0 rfl rfl 0 (by decide) hf11 (fun _ h9 => h9) rfl dX5_closeMessage_24 ?_
        refine lv_iload_n hx hb dX5_closeMessage_27 rfl (lv_at hl 0 rfl) ?_
        refine lv_iconst (v := 0) hx hb dX5_closeMessage_28 (by decide) ?_
        refine xbast (k := i) hx hb hev.1 hP hD hS 0 0 rfl rfl (by omega) (by decide) dX5_closeMessage_29 (fun H locs hP hD hS => ?_)
        obtain ⟨f6, ef6⟩ : ∃ y9_ : Nat → Int32, y9_ = upd g i (vp_nar .byte 0) := ⟨_, rfl⟩
        rw [← ef6] at hP hD
        have hP : va_P E.1 vwCl [(ms, aB E 128 f6)] H := hP
        have hD : va_D A [(ms, aB E 128 f6)] := hD
        refine lv_iinc (v := nI (i + 1)) (lv' := [(2, .int (nI (i + 1))), (0, .ref h), (1, .int (nI e9))]) hx hb dX5_closeMessage_30 hl (k := 0) rfl ((nI_add i 1).trans (congrArg nI (by omega))) (by decide) rfl (fun ls hl => ?_)
        refine lv_goto (tgt := 18) hx hb dX5_closeMessage_33 (by decide) ?_
        exact ih  (i + 1) f6 (by omega) (lt_s (fun j hj => by rw [ef6, upd_ne (by omega)]; exact hg j hj) (by rw [ef6, upd_self, if_neg (by omega), if_neg (by omega)]; rfl)) (by omega) _ _ hP hD hS ls (lv_sub hl [0, 1, 2] rfl)
  exact loop18 (e9 + 1) (n + 1) f1 (by omega) (lt_s (fun j hj => by rw [ef1, upd_ne (by omega), if_pos hj]) (by rw [ef1, upd_self, if_neg (by omega), if_pos rfl]; rfl)) (by omega) _ _ hP hD hS ls (lv_sub hl [0, 1, 2] rfl)

abbrev pX5_fillSchedule (E : xE) (h : Nat) (ms : Nat) (sc : Nat) (sa : Nat) (n : Nat) (f : Nat → Int32) (b : Nat) (fc : Nat → Int32) (w : va_W) : Prop := ∃ (gc : Nat → Int32), w = [(sc, aI E 64 gc)] ∧ (∀ t, t < 64 → gc t = sch (wd f b) t)
set_option maxHeartbeats 4000000 in
set_option maxRecDepth 100000 in
theorem kX5_fillSchedule (l : Launch) (E : xE) (h : Nat) (ms : Nat) (sc : Nat) (sa : Nat) (n : Nat) (f : Nat → Int32) (b : Nat) (fc : Nat → Int32) (hb9 : b + 64 ≤ 128) : KT l yX5_fillSchedule wsX5_fillSchedule 1 21 0 0 E [(sc, aI E 64 fc)] [(h, .inr (6, [.ref ms, .ref sc, .ref sa, .int (nI n)])), (ms, aB E 128 f)] [.ref h, .int (nI b)] (QV E (pX5_fillSchedule E h ms sc sa n f b fc)) := by
  refine KT.start (cc := cX5_fillSchedule) (maxL := 7) (ret := none) (by decide) rfl (Nat.le_of_ble_eq_true rfl) ?_
  intro p e s m below meth c A H hx hb hr hlocks hml hts hown hin hP hR0 hD hap hev hz hA hS ls hl
  have hl : lv_has ls 7 [(0, .ref h), (1, .int (nI b))] := hl
  have hiX5 : ∀ w ∈ wsX50, w ∈ wsX5_fillSchedule := by decide +kernel
  have hf11 := hts (.fieldLink RX5 11 "SignQuorum$Sha256" "message" "[B") (by decide +kernel)
  have hf15 := hts (.fieldLink RX5 15 "SignQuorum$Sha256" "schedule" "[I") (by decide +kernel)
  refine lv_iconst (v := 0) hx hb dX5_fillSchedule_0 (by decide) ?_
  refine lv_istore_n (lv' := [(2, .int 0), (0, .ref h), (1, .int (nI b))]) hx hb dX5_fillSchedule_1 rfl hl (by decide) rfl (fun ls hl => ?_)
  have loop2 : ∀ (fz : Nat) (i : Nat) (gc : Nat → Int32), (i ≤ 16) → (∀ t, t < i → gc t = sch (wd f b) t) → (16 - i < fz) → ∀ (H : Heap) (locs : List Loc), va_P E.1 vwCl [(sc, aI E 64 gc)] H → va_D A [(sc, aI E 64 gc)] → va_S A s.heap H locs → ∀ ls : Array Slot, lv_has ls 7 [(2, .int (nI i)), (0, .ref h), (1, .int (nI b))] → W p l e ({ frames := 1, cells := 0, slots := 0, locals := 21 } : Room) s m ([.ref h, .int (nI b)] : List Value).toArray below meth c H locs 0 0 (MQ below (QV E (pX5_fillSchedule E h ms sc sa n f b fc) A) ([.ref h, .int (nI b)] : List Value).toArray s 0 0 A) (F0 m 2 ls []) := by
    intro fz
    induction fz with
    | zero =>
      intro i gc hi hg hfuel
      exact absurd hfuel (by omega)
    | succ fz ih =>
      intro i gc hi hg hfuel H locs hP hD hS ls hl
      refine lv_iload_n hx hb dX5_fillSchedule_2 rfl (lv_at hl 0 rfl) ?_
      refine lv_bipush (v := 16) hx hb dX5_fillSchedule_3 (by decide) ?_
      refine lv_icmp_ge (tgt := 84) hx hb dX5_fillSchedule_5 (by decide) (fun c1 => ?_) (fun c1 => ?_)
      · skip
        have kc1 : 16 ≤ i := (nI_leI (a := 16) (b := i) (by omega) (by omega)).mp c1
        refine lv_bipush (v := 16) hx hb dX5_fillSchedule_84 (by decide) ?_
        refine lv_istore_n (lv' := [(2, .int 16), (0, .ref h), (1, .int (nI b))]) hx hb dX5_fillSchedule_86 rfl hl (by decide) rfl (fun ls hl => ?_)
        have loop87 : ∀ (fz : Nat) (i2 : Nat) (gd : Nat → Int32), (16 ≤ i2 ∧ i2 ≤ 64) → (∀ t, t < i2 → gd t = sch (wd f b) t) → (64 - i2 < fz) → ∀ (H : Heap) (locs : List Loc), va_P E.1 vwCl [(sc, aI E 64 gd)] H → va_D A [(sc, aI E 64 gd)] → va_S A s.heap H locs → ∀ ls : Array Slot, lv_has ls 7 [(2, .int (nI i2)), (0, .ref h), (1, .int (nI b))] → W p l e ({ frames := 1, cells := 0, slots := 0, locals := 21 } : Room) s m ([.ref h, .int (nI b)] : List Value).toArray below meth c H locs 0 0 (MQ below (QV E (pX5_fillSchedule E h ms sc sa n f b fc) A) ([.ref h, .int (nI b)] : List Value).toArray s 0 0 A) (F0 m 87 ls []) := by
          intro fz
          induction fz with
          | zero =>
            intro i2 gd hi2 hg2 hfuel
            exact absurd hfuel (by omega)
          | succ fz ih =>
            intro i2 gd hi2 hg2 hfuel H locs hP hD hS ls hl
            refine lv_iload_n hx hb dX5_fillSchedule_87 rfl (lv_at hl 0 rfl) ?_
            refine lv_bipush (v := 64) hx hb dX5_fillSchedule_88 (by decide) ?_
            refine lv_icmp_ge (tgt := 192) hx hb dX5_fillSchedule_90 (by decide) (fun c2 => ?_) (fun c2 => ?_)
            · skip
              have kc2 : 64 ≤ i2 := (nI_leI (a := 64) (b := i2) (by omega) (by omega)).mp c2
              refine xrv hx hb hr hlocks hP hD hS ⟨gd, rfl, ?_⟩ dX5_fillSchedule_192
              exact fun t ht => hg2 t (by omega)
            · skip
              have kc2 : ¬ 64 ≤ i2 := fun h9 => c2 ((nI_leI (a := 64) (b := i2) (by omega) (by omega)).mpr h9)
              refine lv_aload_n hx hb dX5_fillSchedule_93 rfl (lv_at hl 1 rfl) ?_
              refine va_get (D := E.1) (ci := 6) (v := .ref sc) (C := RX5) (T := TX5) (N := 4) hx hb hts hiX5 hown hev.1 (xro hR0 hap hS) 0 rfl rfl 1 (by decide) hf15 (fun _ h9 => h9) rfl dX5_fillSchedule_94 ?_
              refine lv_iload_n hx hb dX5_fillSchedule_97 rfl (lv_at hl 0 rfl) ?_
              refine lv_bipush (v := 15) hx hb dX5_fillSchedule_98 (by decide) ?_
              refine lv_isub hx hb dX5_fillSchedule_100 ?_
              refine xtop (y := nI (i2 - 15)) (pk_sub (a := i2) (b := 15) (by omega)) ?_
              refine xiald (k := (i2 - 15)) hx hb hev.1 hP 0 1 rfl rfl (by omega) (by decide) dX5_fillSchedule_101 ?_
              refine lv_istore_n (lv' := [(3, .int (gd (i2 - 15))), (2, .int (nI i2)), (0, .ref h), (1, .int (nI b))]) hx hb dX5_fillSchedule_102 rfl hl (by decide) rfl (fun ls hl => ?_)
              refine lv_aload_n hx hb dX5_fillSchedule_103 rfl (lv_at hl 2 rfl) ?_
              refine va_get (D := E.1) (ci := 6) (v := .ref sc) (C := RX5) (T := TX5) (N := 4) hx hb hts hiX5 hown hev.1 (xro hR0 hap hS) 0 rfl rfl 1 (by decide) hf15 (fun _ h9 => h9) rfl dX5_fillSchedule_104 ?_
              refine lv_iload_n hx hb dX5_fillSchedule_107 rfl (lv_at hl 1 rfl) ?_
              refine lv_iconst (v := 2) hx hb dX5_fillSchedule_108 (by decide) ?_
              refine lv_isub hx hb dX5_fillSchedule_109 ?_
              refine xtop (y := nI (i2 - 2)) (pk_sub (a := i2) (b := 2) (by omega)) ?_
              refine xiald (k := (i2 - 2)) hx hb hev.1 hP 0 1 rfl rfl (by omega) (by decide) dX5_fillSchedule_110 ?_
              refine lv_istore (lv' := [(4, .int (gd (i2 - 2))), (3, .int (gd (i2 - 15))), (2, .int (nI i2)), (0, .ref h), (1, .int (nI b))]) hx hb dX5_fillSchedule_111 hl (by decide) rfl (fun ls hl => ?_)
              refine lv_iload_n hx hb dX5_fillSchedule_113 rfl (lv_at hl 1 rfl) ?_
              refine lv_bipush (v := 7) hx hb dX5_fillSchedule_114 (by decide) ?_
              have hP := hP.sub (ws' := [] ++ [(sc, aI E 64 gd)]) [0] rfl
              have hD := hD.sub (ws' := [] ++ [(sc, aI E 64 gd)]) [0] (by decide) rfl
              refine xci (va_runS (As := [.int (gd (i2 - 15)), .int 7]) (rest := []) ⟨hx, hb, hml, hown, hts⟩ (kJ6_rotateRight_7cf53 l E (gd (i2 - 15)) 7  H.size) (va_cwS 2 hts gX5_fillSchedule_J6_rotateRight_7cf53 rfl rfl rfl (by decide +kernel) ⟨Nat.le_of_ble_eq_true rfl, Nat.le_of_ble_eq_true rfl⟩) ⟨CP.blind, (xpre hev hz hA hP hD hS hR0 hap [] rfl)⟩ rfl rfl hl.1 rfl (lv_room (Nat.le_of_ble_eq_true rfl)) dX5_fillSchedule_116 ⟨Nat.le_of_ble_eq_true rfl, Nat.le_of_ble_eq_true rfl⟩) hP hD hS hA (fun r3 w4 H locs h5 hP hD hS => ?_)
              obtain ⟨rfl, rfl, h5⟩ := h5
              try dsimp only at h5
              have hP : va_P E.1 vwCl [(sc, aI E 64 gd)] H := hP
              have hD : va_D A [(sc, aI E 64 gd)] := hD
              refine lv_iload_n hx hb dX5_fillSchedule_119 rfl (lv_at hl 1 rfl) ?_
              refine lv_bipush (v := 18) hx hb dX5_fillSchedule_120 (by decide) ?_
              have hP := hP.sub (ws' := [] ++ [(sc, aI E 64 gd)]) [0] rfl
              have hD := hD.sub (ws' := [] ++ [(sc, aI E 64 gd)]) [0] (by decide) rfl
              refine xci (va_runS (As := [.int (gd (i2 - 15)), .int 18]) (rest := [.int (jrot (gd (i2 - 15)) 7)]) ⟨hx, hb, hml, hown, hts⟩ (kJ6_rotateRight_7cf53 l E (gd (i2 - 15)) 18  H.size) (va_cwS 2 hts gX5_fillSchedule_J6_rotateRight_7cf53 rfl rfl rfl (by decide +kernel) ⟨Nat.le_of_ble_eq_true rfl, Nat.le_of_ble_eq_true rfl⟩) ⟨CP.blind, (xpre hev hz hA hP hD hS hR0 hap [] rfl)⟩ rfl rfl hl.1 rfl (lv_room (Nat.le_of_ble_eq_true rfl)) dX5_fillSchedule_122 ⟨Nat.le_of_ble_eq_true rfl, Nat.le_of_ble_eq_true rfl⟩) hP hD hS hA (fun r6 w7 H locs h8 hP hD hS => ?_)
              obtain ⟨rfl, rfl, h8⟩ := h8
              try dsimp only at h8
              have hP : va_P E.1 vwCl [(sc, aI E 64 gd)] H := hP
              have hD : va_D A [(sc, aI E 64 gd)] := hD
              refine lv_ixor hx hb dX5_fillSchedule_125 ?_
              refine lv_iload_n hx hb dX5_fillSchedule_126 rfl (lv_at hl 1 rfl) ?_
              refine lv_iconst (v := 3) hx hb dX5_fillSchedule_127 (by decide) ?_
              refine lv_iushr (v := ((gd (i2 - 15)).toUInt32 >>> ((3 : Int32).toUInt32 &&& Int32.toUInt32 31)).toInt32) hx hb dX5_fillSchedule_128 rfl ?_
              refine lv_ixor hx hb dX5_fillSchedule_129 ?_
              refine lv_topi (fun v9 ev9 => ?_)
              refine lv_istore (lv' := [(5, .int v9), (4, .int (gd (i2 - 2))), (3, .int (gd (i2 - 15))), (2, .int (nI i2)), (0, .ref h), (1, .int (nI b))]) hx hb dX5_fillSchedule_130 hl (by decide) rfl (fun ls hl => ?_)
              refine lv_iload hx hb dX5_fillSchedule_132 (lv_at hl 1 rfl) ?_
              refine lv_bipush (v := 17) hx hb dX5_fillSchedule_134 (by decide) ?_
              have hP := hP.sub (ws' := [] ++ [(sc, aI E 64 gd)]) [0] rfl
              have hD := hD.sub (ws' := [] ++ [(sc, aI E 64 gd)]) [0] (by decide) rfl
              refine xci (va_runS (As := [.int (gd (i2 - 2)), .int 17]) (rest := []) ⟨hx, hb, hml, hown, hts⟩ (kJ6_rotateRight_7cf53 l E (gd (i2 - 2)) 17  H.size) (va_cwS 2 hts gX5_fillSchedule_J6_rotateRight_7cf53 rfl rfl rfl (by decide +kernel) ⟨Nat.le_of_ble_eq_true rfl, Nat.le_of_ble_eq_true rfl⟩) ⟨CP.blind, (xpre hev hz hA hP hD hS hR0 hap [] rfl)⟩ rfl rfl hl.1 rfl (lv_room (Nat.le_of_ble_eq_true rfl)) dX5_fillSchedule_136 ⟨Nat.le_of_ble_eq_true rfl, Nat.le_of_ble_eq_true rfl⟩) hP hD hS hA (fun r10 w11 H locs h12 hP hD hS => ?_)
              obtain ⟨rfl, rfl, h12⟩ := h12
              try dsimp only at h12
              have hP : va_P E.1 vwCl [(sc, aI E 64 gd)] H := hP
              have hD : va_D A [(sc, aI E 64 gd)] := hD
              refine lv_iload hx hb dX5_fillSchedule_139 (lv_at hl 1 rfl) ?_
              refine lv_bipush (v := 19) hx hb dX5_fillSchedule_141 (by decide) ?_
              have hP := hP.sub (ws' := [] ++ [(sc, aI E 64 gd)]) [0] rfl
              have hD := hD.sub (ws' := [] ++ [(sc, aI E 64 gd)]) [0] (by decide) rfl
              refine xci (va_runS (As := [.int (gd (i2 - 2)), .int 19]) (rest := [.int (jrot (gd (i2 - 2)) 17)]) ⟨hx, hb, hml, hown, hts⟩ (kJ6_rotateRight_7cf53 l E (gd (i2 - 2)) 19  H.size) (va_cwS 2 hts gX5_fillSchedule_J6_rotateRight_7cf53 rfl rfl rfl (by decide +kernel) ⟨Nat.le_of_ble_eq_true rfl, Nat.le_of_ble_eq_true rfl⟩) ⟨CP.blind, (xpre hev hz hA hP hD hS hR0 hap [] rfl)⟩ rfl rfl hl.1 rfl (lv_room (Nat.le_of_ble_eq_true rfl)) dX5_fillSchedule_143 ⟨Nat.le_of_ble_eq_true rfl, Nat.le_of_ble_eq_true rfl⟩) hP hD hS hA (fun r13 w14 H locs h15 hP hD hS => ?_)
              obtain ⟨rfl, rfl, h15⟩ := h15
              try dsimp only at h15
              have hP : va_P E.1 vwCl [(sc, aI E 64 gd)] H := hP
              have hD : va_D A [(sc, aI E 64 gd)] := hD
              refine lv_ixor hx hb dX5_fillSchedule_146 ?_
              refine lv_iload hx hb dX5_fillSchedule_147 (lv_at hl 1 rfl) ?_
              refine lv_bipush (v := 10) hx hb dX5_fillSchedule_149 (by decide) ?_
              refine lv_iushr (v := ((gd (i2 - 2)).toUInt32 >>> ((10 : Int32).toUInt32 &&& Int32.toUInt32 31)).toInt32) hx hb dX5_fillSchedule_151 rfl ?_
              refine lv_ixor hx hb dX5_fillSchedule_152 ?_
              refine lv_topi (fun v16 ev16 => ?_)
              refine lv_istore (lv' := [(6, .int v16), (5, .int v9), (4, .int (gd (i2 - 2))), (3, .int (gd (i2 - 15))), (2, .int (nI i2)), (0, .ref h), (1, .int (nI b))]) hx hb dX5_fillSchedule_153 hl (by decide) rfl (fun ls hl => ?_)
              refine lv_aload_n hx hb dX5_fillSchedule_155 rfl (lv_at hl 5 rfl) ?_
              refine va_get (D := E.1) (ci := 6) (v := .ref sc) (C := RX5) (T := TX5) (N := 4) hx hb hts hiX5 hown hev.1 (xro hR0 hap hS) 0 rfl rfl 1 (by decide) hf15 (fun _ h9 => h9) rfl dX5_fillSchedule_156 ?_
              refine lv_iload_n hx hb dX5_fillSchedule_159 rfl (lv_at hl 4 rfl) ?_
              refine lv_aload_n hx hb dX5_fillSchedule_160 rfl (lv_at hl 5 rfl) ?_
              refine va_get (D := E.1) (ci := 6) (v := .ref sc) (C := RX5) (T := TX5) (N := 4) hx hb hts hiX5 hown hev.1 (xro hR0 hap hS) 0 rfl rfl 1 (by decide) hf15 (fun _ h9 => h9) rfl dX5_fillSchedule_161 ?_
              refine lv_iload_n hx hb dX5_fillSchedule_164 rfl (lv_at hl 4 rfl) ?_
              refine lv_bipush (v := 16) hx hb dX5_fillSchedule_165 (by decide) ?_
              refine lv_isub hx hb dX5_fillSchedule_167 ?_
              refine xtop (y := nI (i2 - 16)) (pk_sub (a := i2) (b := 16) (by omega)) ?_
              refine xiald (k := (i2 - 16)) hx hb hev.1 hP 0 1 rfl rfl (by omega) (by decide) dX5_fillSchedule_168 ?_
              refine lv_iload hx hb dX5_fillSchedule_169 (lv_at hl 1 rfl) ?_
              refine lv_iadd hx hb dX5_fillSchedule_171 ?_
              refine lv_aload_n hx hb dX5_fillSchedule_172 rfl (lv_at hl 5 rfl) ?_
              refine va_get (D := E.1) (ci := 6) (v := .ref sc) (C := RX5) (T := TX5) (N := 4) hx hb hts hiX5 hown hev.1 (xro hR0 hap hS) 0 rfl rfl 1 (by decide) hf15 (fun _ h9 => h9) rfl dX5_fillSchedule_173 ?_
              refine lv_iload_n hx hb dX5_fillSchedule_176 rfl (lv_at hl 4 rfl) ?_
              refine lv_bipush (v := 7) hx hb dX5_fillSchedule_177 (by decide) ?_
              refine lv_isub hx hb dX5_fillSchedule_179 ?_
              refine xtop (y := nI (i2 - 7)) (pk_sub (a := i2) (b := 7) (by omega)) ?_
              refine xiald (k := (i2 - 7)) hx hb hev.1 hP 0 1 rfl rfl (by omega) (by decide) dX5_fillSchedule_180 ?_
              refine lv_iadd hx hb dX5_fillSchedule_181 ?_
              refine lv_iload hx hb dX5_fillSchedule_182 (lv_at hl 0 rfl) ?_
              refine lv_iadd hx hb dX5_fillSchedule_184 ?_
              refine xiast (k := i2) hx hb hev.1 hP hD hS 0 1 rfl rfl (by omega) (by decide) dX5_fillSchedule_185 (fun H locs hP hD hS => ?_)
              obtain ⟨f17, ef17⟩ : ∃ y9_ : Nat → Int32, y9_ = upd gd i2 ((((gd (i2 - 16)) + v9) + (gd (i2 - 7))) + v16) := ⟨_, rfl⟩
              rw [← ef17] at hP hD
              have hP : va_P E.1 vwCl [(sc, aI E 64 f17)] H := hP
              have hD : va_D A [(sc, aI E 64 f17)] := hD
              refine lv_iinc (v := nI (i2 + 1)) (lv' := [(2, .int (nI (i2 + 1))), (6, .int v16), (5, .int v9), (4, .int (gd (i2 - 2))), (3, .int (gd (i2 - 15))), (0, .ref h), (1, .int (nI b))]) hx hb dX5_fillSchedule_186 hl (k := 4) rfl ((nI_add i2 1).trans (congrArg nI (by omega))) (by decide) rfl (fun ls hl => ?_)
              refine lv_goto (tgt := 87) hx hb dX5_fillSchedule_189 (by decide) ?_
              exact ih  (i2 + 1) f17 (by omega) (lt_s (fun j hj => by rw [ef17, upd_ne (by omega)]; exact hg2 j hj) (by rw [ef17, upd_self, sch_hi (by omega), ← hg2 _ (by omega), ← hg2 _ (by omega), ← hg2 _ (by omega), ← hg2 _ (by omega)]; subst_vars; rfl)) (by omega) _ _ hP hD hS ls (lv_sub hl [0, 5, 6] rfl)
        exact loop87 65 16 gc (by omega) (fun t ht => hg t (by omega)) (by omega) _ _ hP hD hS ls (lv_sub hl [0, 1, 2] rfl)
      · skip
        have kc1 : ¬ 16 ≤ i := fun h9 => c1 ((nI_leI (a := 16) (b := i) (by omega) (by omega)).mpr h9)
        refine lv_iload_n hx hb dX5_fillSchedule_8 rfl (lv_at hl 2 rfl) ?_
        refine lv_iconst (v := 4) hx hb dX5_fillSchedule_9 (by decide) ?_
        refine lv_iload_n hx hb dX5_fillSchedule_10 rfl (lv_at hl 0 rfl) ?_
        refine lv_imul hx hb dX5_fillSchedule_11 ?_
        refine xtop (y := nI (4 * i)) (pk_mul _ _) ?_
        refine lv_iadd hx hb dX5_fillSchedule_12 ?_
        refine xtop (y := nI (b + (4 * i))) ((nI_add b (4 * i)).trans (congrArg nI (by omega))) ?_
        refine lv_istore_n (lv' := [(3, .int (nI (b + (4 * i)))), (2, .int (nI i)), (0, .ref h), (1, .int (nI b))]) hx hb dX5_fillSchedule_13 rfl hl (by decide) rfl (fun ls hl => ?_)
        refine lv_aload_n hx hb dX5_fillSchedule_14 rfl (lv_at hl 2 rfl) ?_
        refine va_get (D := E.1) (ci := 6) (v := .ref sc) (C := RX5) (T := TX5) (N := 4) hx hb hts hiX5 hown hev.1 (xro hR0 hap hS) 0 rfl rfl 1 (by decide) hf15 (fun _ h9 => h9) rfl dX5_fillSchedule_15 ?_
        refine lv_iload_n hx hb dX5_fillSchedule_18 rfl (lv_at hl 1 rfl) ?_
        refine lv_aload_n hx hb dX5_fillSchedule_19 rfl (lv_at hl 2 rfl) ?_
        refine va_get (D := E.1) (ci := 6) (v := .ref ms) (C := RX5) (T := TX5) (N := 4) hx hb hts hiX5 hown hev.1 (xro hR0 hap hS) 0 rfl rfl 0 (by decide) hf11 (fun _ h9 => h9) rfl dX5_fillSchedule_20 ?_
        refine lv_iload_n hx hb dX5_fillSchedule_23 rfl (lv_at hl 0 rfl) ?_
        refine xbald (k := (b + (4 * i))) hx hb hev.1 (xro hR0 hap hS) 1 0 rfl rfl (by omega) (by decide) dX5_fillSchedule_24 ?_
        refine lv_sipush (v := 255) hx hb dX5_fillSchedule_25 (by decide) ?_
        refine lv_iand hx hb dX5_fillSchedule_28 ?_
        refine lv_bipush (v := 24) hx hb dX5_fillSchedule_29 (by decide) ?_
        refine lv_ishl hx hb dX5_fillSchedule_31 ?_
        refine lv_aload_n hx hb dX5_fillSchedule_32 rfl (lv_at hl 2 rfl) ?_
        refine va_get (D := E.1) (ci := 6) (v := .ref ms) (C := RX5) (T := TX5) (N := 4) hx hb hts hiX5 hown hev.1 (xro hR0 hap hS) 0 rfl rfl 0 (by decide) hf11 (fun _ h9 => h9) rfl dX5_fillSchedule_33 ?_
        refine lv_iload_n hx hb dX5_fillSchedule_36 rfl (lv_at hl 0 rfl) ?_
        refine lv_iconst (v := 1) hx hb dX5_fillSchedule_37 (by decide) ?_
        refine lv_iadd hx hb dX5_fillSchedule_38 ?_
        refine xtop (y := nI (b + (4 * i) + 1)) ((nI_add (b + (4 * i)) 1).trans (congrArg nI (by omega))) ?_
        refine xbald (k := (b + (4 * i) + 1)) hx hb hev.1 (xro hR0 hap hS) 1 0 rfl rfl (by omega) (by decide) dX5_fillSchedule_39 ?_
        refine lv_sipush (v := 255) hx hb dX5_fillSchedule_40 (by decide) ?_
        refine lv_iand hx hb dX5_fillSchedule_43 ?_
        refine lv_bipush (v := 16) hx hb dX5_fillSchedule_44 (by decide) ?_
        refine lv_ishl hx hb dX5_fillSchedule_46 ?_
        refine lv_ior hx hb dX5_fillSchedule_47 ?_
        refine lv_topi (fun v18 ev18 => ?_)
        refine lv_aload_n hx hb dX5_fillSchedule_48 rfl (lv_at hl 2 rfl) ?_
        refine va_get (D := E.1) (ci := 6) (v := .ref ms) (C := RX5) (T := TX5) (N := 4) hx hb hts hiX5 hown hev.1 (xro hR0 hap hS) 0 rfl rfl 0 (by decide) hf11 (fun _ h9 => h9) rfl dX5_fillSchedule_49 ?_
        refine lv_iload_n hx hb dX5_fillSchedule_52 rfl (lv_at hl 0 rfl) ?_
        refine lv_iconst (v := 2) hx hb dX5_fillSchedule_53 (by decide) ?_
        refine lv_iadd hx hb dX5_fillSchedule_54 ?_
        refine xtop (y := nI (b + (4 * i) + 2)) ((nI_add (b + (4 * i)) 2).trans (congrArg nI (by omega))) ?_
        refine xbald (k := (b + (4 * i) + 2)) hx hb hev.1 (xro hR0 hap hS) 1 0 rfl rfl (by omega) (by decide) dX5_fillSchedule_55 ?_
        refine lv_sipush (v := 255) hx hb dX5_fillSchedule_56 (by decide) ?_
        refine lv_iand hx hb dX5_fillSchedule_59 ?_
        refine lv_bipush (v := 8) hx hb dX5_fillSchedule_60 (by decide) ?_
        refine lv_ishl hx hb dX5_fillSchedule_62 ?_
        refine lv_ior hx hb dX5_fillSchedule_63 ?_
        refine lv_aload_n hx hb dX5_fillSchedule_64 rfl (lv_at hl 2 rfl) ?_
        refine va_get (D := E.1) (ci := 6) (v := .ref ms) (C := RX5) (T := TX5) (N := 4) hx hb hts hiX5 hown hev.1 (xro hR0 hap hS) 0 rfl rfl 0 (by decide) hf11 (fun _ h9 => h9) rfl dX5_fillSchedule_65 ?_
        refine lv_iload_n hx hb dX5_fillSchedule_68 rfl (lv_at hl 0 rfl) ?_
        refine lv_iconst (v := 3) hx hb dX5_fillSchedule_69 (by decide) ?_
        refine lv_iadd hx hb dX5_fillSchedule_70 ?_
        refine xtop (y := nI (b + (4 * i) + 3)) ((nI_add (b + (4 * i)) 3).trans (congrArg nI (by omega))) ?_
        refine xbald (k := (b + (4 * i) + 3)) hx hb hev.1 (xro hR0 hap hS) 1 0 rfl rfl (by omega) (by decide) dX5_fillSchedule_71 ?_
        refine lv_sipush (v := 255) hx hb dX5_fillSchedule_72 (by decide) ?_
        refine lv_iand hx hb dX5_fillSchedule_75 ?_
        refine lv_ior hx hb dX5_fillSchedule_76 ?_
        refine lv_topi (fun v19 ev19 => ?_)
        refine xiast (k := i) hx hb hev.1 hP hD hS 0 1 rfl rfl (by omega) (by decide) dX5_fillSchedule_77 (fun H locs hP hD hS => ?_)
        obtain ⟨f20, ef20⟩ : ∃ y9_ : Nat → Int32, y9_ = upd gc i v19 := ⟨_, rfl⟩
        rw [← ef20] at hP hD
        have hP : va_P E.1 vwCl [(sc, aI E 64 f20)] H := hP
        have hD : va_D A [(sc, aI E 64 f20)] := hD
        refine lv_iinc (v := nI (i + 1)) (lv' := [(2, .int (nI (i + 1))), (3, .int (nI (b + (4 * i)))), (0, .ref h), (1, .int (nI b))]) hx hb dX5_fillSchedule_78 hl (k := 1) rfl ((nI_add i 1).trans (congrArg nI (by omega))) (by decide) rfl (fun ls hl => ?_)
        refine lv_goto (tgt := 2) hx hb dX5_fillSchedule_81 (by decide) ?_
        exact ih  (i + 1) f20 (by omega) (lt_s (fun j hj => by rw [ef20, upd_ne (by omega)]; exact hg j hj) (by rw [ef20, upd_self, sch_lo (by omega)]; subst_vars; rfl)) (by omega) _ _ hP hD hS ls (lv_sub hl [0, 2, 3] rfl)
  exact loop2 17 0 fc (by omega) (fun _ h9 => absurd h9 (by omega)) (by omega) _ _ hP hD hS ls (lv_sub hl [0, 1, 2] rfl)

abbrev pX5_mixBlock (E : xE) (h : Nat) (ms : Nat) (sc : Nat) (sa : Nat) (n : Nat) (fc : Nat → Int32) (fa : Nat → Int32) (w : va_W) : Prop := ∃ (ga : Nat → Int32), w = [(sa, aI E 8 ga)] ∧ (∀ i, i < 8 → ga i = fa i + rst fa fc 64 i)
set_option maxHeartbeats 4000000 in
set_option maxRecDepth 100000 in
theorem kX5_mixBlock (l : Launch) (E : xE) (h : Nat) (ms : Nat) (sc : Nat) (sa : Nat) (n : Nat) (fc : Nat → Int32) (fa : Nat → Int32)  : KT l yX5_mixBlock wsX5_mixBlock 1 21 0 0 E [(sa, aI E 8 fa)] [(h, .inr (6, [.ref ms, .ref sc, .ref sa, .int (nI n)])), (sc, aI E 64 fc)] [.ref h] (QV E (pX5_mixBlock E h ms sc sa n fc fa)) := by
  refine KT.start (cc := cX5_mixBlock) (maxL := 15) (ret := none) (by decide) rfl (Nat.le_of_ble_eq_true rfl) ?_
  intro p e s m below meth c A H hx hb hr hlocks hml hts hown hin hP hR0 hD hap hev hz hA hS ls hl
  have hl : lv_has ls 15 [(0, .ref h)] := hl
  have hiX5 : ∀ w ∈ wsX50, w ∈ wsX5_mixBlock := by decide +kernel
  have hf15 := hts (.fieldLink RX5 15 "SignQuorum$Sha256" "schedule" "[I") (by decide +kernel)
  have hf19 := hts (.fieldLink RX5 19 "SignQuorum$Sha256" "state" "[I") (by decide +kernel)
  have hf59 := hts (.fieldLink RX5 59 "SignQuorum$Sha256" "ROUND_CONSTANTS" "[I") (by decide +kernel)
  refine lv_aload_n hx hb dX5_mixBlock_0 rfl (lv_at hl 0 rfl) ?_
  refine va_get (D := E.1) (ci := 6) (v := .ref sa) (C := RX5) (T := TX5) (N := 4) hx hb hts hiX5 hown hev.1 (xro hR0 hap hS) 0 rfl rfl 2 (by decide) hf19 (fun _ h9 => h9) rfl dX5_mixBlock_1 ?_
  refine lv_iconst (v := 0) hx hb dX5_mixBlock_4 (by decide) ?_
  refine xiald (k := 0) hx hb hev.1 hP 0 1 rfl rfl (by omega) (by decide) dX5_mixBlock_5 ?_
  refine lv_istore_n (lv' := [(1, .int (fa 0)), (0, .ref h)]) hx hb dX5_mixBlock_6 rfl hl (by decide) rfl (fun ls hl => ?_)
  refine lv_aload_n hx hb dX5_mixBlock_7 rfl (lv_at hl 1 rfl) ?_
  refine va_get (D := E.1) (ci := 6) (v := .ref sa) (C := RX5) (T := TX5) (N := 4) hx hb hts hiX5 hown hev.1 (xro hR0 hap hS) 0 rfl rfl 2 (by decide) hf19 (fun _ h9 => h9) rfl dX5_mixBlock_8 ?_
  refine lv_iconst (v := 1) hx hb dX5_mixBlock_11 (by decide) ?_
  refine xiald (k := 1) hx hb hev.1 hP 0 1 rfl rfl (by omega) (by decide) dX5_mixBlock_12 ?_
  refine lv_istore_n (lv' := [(2, .int (fa 1)), (1, .int (fa 0)), (0, .ref h)]) hx hb dX5_mixBlock_13 rfl hl (by decide) rfl (fun ls hl => ?_)
  refine lv_aload_n hx hb dX5_mixBlock_14 rfl (lv_at hl 2 rfl) ?_
  refine va_get (D := E.1) (ci := 6) (v := .ref sa) (C := RX5) (T := TX5) (N := 4) hx hb hts hiX5 hown hev.1 (xro hR0 hap hS) 0 rfl rfl 2 (by decide) hf19 (fun _ h9 => h9) rfl dX5_mixBlock_15 ?_
  refine lv_iconst (v := 2) hx hb dX5_mixBlock_18 (by decide) ?_
  refine xiald (k := 2) hx hb hev.1 hP 0 1 rfl rfl (by omega) (by decide) dX5_mixBlock_19 ?_
  refine lv_istore_n (lv' := [(3, .int (fa 2)), (2, .int (fa 1)), (1, .int (fa 0)), (0, .ref h)]) hx hb dX5_mixBlock_20 rfl hl (by decide) rfl (fun ls hl => ?_)
  refine lv_aload_n hx hb dX5_mixBlock_21 rfl (lv_at hl 3 rfl) ?_
  refine va_get (D := E.1) (ci := 6) (v := .ref sa) (C := RX5) (T := TX5) (N := 4) hx hb hts hiX5 hown hev.1 (xro hR0 hap hS) 0 rfl rfl 2 (by decide) hf19 (fun _ h9 => h9) rfl dX5_mixBlock_22 ?_
  refine lv_iconst (v := 3) hx hb dX5_mixBlock_25 (by decide) ?_
  refine xiald (k := 3) hx hb hev.1 hP 0 1 rfl rfl (by omega) (by decide) dX5_mixBlock_26 ?_
  refine lv_istore (lv' := [(4, .int (fa 3)), (3, .int (fa 2)), (2, .int (fa 1)), (1, .int (fa 0)), (0, .ref h)]) hx hb dX5_mixBlock_27 hl (by decide) rfl (fun ls hl => ?_)
  refine lv_aload_n hx hb dX5_mixBlock_29 rfl (lv_at hl 4 rfl) ?_
  refine va_get (D := E.1) (ci := 6) (v := .ref sa) (C := RX5) (T := TX5) (N := 4) hx hb hts hiX5 hown hev.1 (xro hR0 hap hS) 0 rfl rfl 2 (by decide) hf19 (fun _ h9 => h9) rfl dX5_mixBlock_30 ?_
  refine lv_iconst (v := 4) hx hb dX5_mixBlock_33 (by decide) ?_
  refine xiald (k := 4) hx hb hev.1 hP 0 1 rfl rfl (by omega) (by decide) dX5_mixBlock_34 ?_
  refine lv_istore (lv' := [(5, .int (fa 4)), (4, .int (fa 3)), (3, .int (fa 2)), (2, .int (fa 1)), (1, .int (fa 0)), (0, .ref h)]) hx hb dX5_mixBlock_35 hl (by decide) rfl (fun ls hl => ?_)
  refine lv_aload_n hx hb dX5_mixBlock_37 rfl (lv_at hl 5 rfl) ?_
  refine va_get (D := E.1) (ci := 6) (v := .ref sa) (C := RX5) (T := TX5) (N := 4) hx hb hts hiX5 hown hev.1 (xro hR0 hap hS) 0 rfl rfl 2 (by decide) hf19 (fun _ h9 => h9) rfl dX5_mixBlock_38 ?_
  refine lv_iconst (v := 5) hx hb dX5_mixBlock_41 (by decide) ?_
  refine xiald (k := 5) hx hb hev.1 hP 0 1 rfl rfl (by omega) (by decide) dX5_mixBlock_42 ?_
  refine lv_istore (lv' := [(6, .int (fa 5)), (5, .int (fa 4)), (4, .int (fa 3)), (3, .int (fa 2)), (2, .int (fa 1)), (1, .int (fa 0)), (0, .ref h)]) hx hb dX5_mixBlock_43 hl (by decide) rfl (fun ls hl => ?_)
  refine lv_aload_n hx hb dX5_mixBlock_45 rfl (lv_at hl 6 rfl) ?_
  refine va_get (D := E.1) (ci := 6) (v := .ref sa) (C := RX5) (T := TX5) (N := 4) hx hb hts hiX5 hown hev.1 (xro hR0 hap hS) 0 rfl rfl 2 (by decide) hf19 (fun _ h9 => h9) rfl dX5_mixBlock_46 ?_
  refine lv_bipush (v := 6) hx hb dX5_mixBlock_49 (by decide) ?_
  refine xiald (k := 6) hx hb hev.1 hP 0 1 rfl rfl (by omega) (by decide) dX5_mixBlock_51 ?_
  refine lv_istore (lv' := [(7, .int (fa 6)), (6, .int (fa 5)), (5, .int (fa 4)), (4, .int (fa 3)), (3, .int (fa 2)), (2, .int (fa 1)), (1, .int (fa 0)), (0, .ref h)]) hx hb dX5_mixBlock_52 hl (by decide) rfl (fun ls hl => ?_)
  refine lv_aload_n hx hb dX5_mixBlock_54 rfl (lv_at hl 7 rfl) ?_
  refine va_get (D := E.1) (ci := 6) (v := .ref sa) (C := RX5) (T := TX5) (N := 4) hx hb hts hiX5 hown hev.1 (xro hR0 hap hS) 0 rfl rfl 2 (by decide) hf19 (fun _ h9 => h9) rfl dX5_mixBlock_55 ?_
  refine lv_bipush (v := 7) hx hb dX5_mixBlock_58 (by decide) ?_
  refine xiald (k := 7) hx hb hev.1 hP 0 1 rfl rfl (by omega) (by decide) dX5_mixBlock_60 ?_
  refine lv_istore (lv' := [(8, .int (fa 7)), (7, .int (fa 6)), (6, .int (fa 5)), (5, .int (fa 4)), (4, .int (fa 3)), (3, .int (fa 2)), (2, .int (fa 1)), (1, .int (fa 0)), (0, .ref h)]) hx hb dX5_mixBlock_61 hl (by decide) rfl (fun ls hl => ?_)
  refine lv_iconst (v := 0) hx hb dX5_mixBlock_63 (by decide) ?_
  refine lv_istore (lv' := [(9, .int 0), (8, .int (fa 7)), (7, .int (fa 6)), (6, .int (fa 5)), (5, .int (fa 4)), (4, .int (fa 3)), (3, .int (fa 2)), (2, .int (fa 1)), (1, .int (fa 0)), (0, .ref h)]) hx hb dX5_mixBlock_64 hl (by decide) rfl (fun ls hl => ?_)
  have loop66 : ∀ (fz : Nat) (t : Nat) (x0 : Int32) (x1 : Int32) (x2 : Int32) (x3 : Int32) (x4 : Int32) (x5 : Int32) (x6 : Int32) (x7 : Int32), (t ≤ 64) → (x0 = rst fa fc t 0 ∧ x1 = rst fa fc t 1 ∧ x2 = rst fa fc t 2 ∧ x3 = rst fa fc t 3 ∧ x4 = rst fa fc t 4 ∧ x5 = rst fa fc t 5 ∧ x6 = rst fa fc t 6 ∧ x7 = rst fa fc t 7) → (64 - t < fz) → ∀ (H : Heap) (locs : List Loc), va_P E.1 vwCl [(sa, aI E 8 fa)] H → va_D A [(sa, aI E 8 fa)] → va_S A s.heap H locs → ∀ ls : Array Slot, lv_has ls 15 [(9, .int (nI t)), (1, .int x0), (2, .int x1), (3, .int x2), (4, .int x3), (5, .int x4), (6, .int x5), (7, .int x6), (8, .int x7), (0, .ref h)] → W p l e ({ frames := 1, cells := 0, slots := 0, locals := 21 } : Room) s m ([.ref h] : List Value).toArray below meth c H locs 0 0 (MQ below (QV E (pX5_mixBlock E h ms sc sa n fc fa) A) ([.ref h] : List Value).toArray s 0 0 A) (F0 m 66 ls []) := by
    intro fz
    induction fz with
    | zero =>
      intro t x0 x1 x2 x3 x4 x5 x6 x7 ht hr8 hfuel
      exact absurd hfuel (by omega)
    | succ fz ih =>
      intro t x0 x1 x2 x3 x4 x5 x6 x7 ht hr8 hfuel H locs hP hD hS ls hl
      refine lv_iload hx hb dX5_mixBlock_66 (lv_at hl 0 rfl) ?_
      refine lv_bipush (v := 64) hx hb dX5_mixBlock_68 (by decide) ?_
      refine lv_icmp_ge (tgt := 213) hx hb dX5_mixBlock_70 (by decide) (fun c1 => ?_) (fun c1 => ?_)
      · skip
        have kc1 : 64 ≤ t := (nI_leI (a := 64) (b := t) (by omega) (by omega)).mp c1
        refine lv_aload_n hx hb dX5_mixBlock_213 rfl (lv_at hl 9 rfl) ?_
        refine va_get (D := E.1) (ci := 6) (v := .ref sa) (C := RX5) (T := TX5) (N := 4) hx hb hts hiX5 hown hev.1 (xro hR0 hap hS) 0 rfl rfl 2 (by decide) hf19 (fun _ h9 => h9) rfl dX5_mixBlock_214 ?_
        refine lv_iconst (v := 0) hx hb dX5_mixBlock_217 (by decide) ?_
        refine lv_dup2_11 hx hb dX5_mixBlock_218 rfl rfl ?_
        refine xiald (k := 0) hx hb hev.1 hP 0 1 rfl rfl (by omega) (by decide) dX5_mixBlock_219 ?_
        refine lv_iload_n hx hb dX5_mixBlock_220 rfl (lv_at hl 1 rfl) ?_
        refine lv_iadd hx hb dX5_mixBlock_221 ?_
        refine xiast (k := 0) hx hb hev.1 hP hD hS 0 1 rfl rfl (by omega) (by decide) dX5_mixBlock_222 (fun H locs hP hD hS => ?_)
        obtain ⟨f2, ef2⟩ : ∃ y9_ : Nat → Int32, y9_ = upd fa 0 ((fa 0) + x0) := ⟨_, rfl⟩
        rw [← ef2] at hP hD
        have hP : va_P E.1 vwCl [(sa, aI E 8 f2)] H := hP
        have hD : va_D A [(sa, aI E 8 f2)] := hD
        refine lv_aload_n hx hb dX5_mixBlock_223 rfl (lv_at hl 9 rfl) ?_
        refine va_get (D := E.1) (ci := 6) (v := .ref sa) (C := RX5) (T := TX5) (N := 4) hx hb hts hiX5 hown hev.1 (xro hR0 hap hS) 0 rfl rfl 2 (by decide) hf19 (fun _ h9 => h9) rfl dX5_mixBlock_224 ?_
        refine lv_iconst (v := 1) hx hb dX5_mixBlock_227 (by decide) ?_
        refine lv_dup2_11 hx hb dX5_mixBlock_228 rfl rfl ?_
        refine xiald (k := 1) hx hb hev.1 hP 0 1 rfl rfl (by omega) (by decide) dX5_mixBlock_229 ?_
        refine lv_iload_n hx hb dX5_mixBlock_230 rfl (lv_at hl 2 rfl) ?_
        refine lv_iadd hx hb dX5_mixBlock_231 ?_
        refine xiast (k := 1) hx hb hev.1 hP hD hS 0 1 rfl rfl (by omega) (by decide) dX5_mixBlock_232 (fun H locs hP hD hS => ?_)
        obtain ⟨f3, ef3⟩ : ∃ y9_ : Nat → Int32, y9_ = upd f2 1 ((f2 1) + x1) := ⟨_, rfl⟩
        rw [← ef3] at hP hD
        have hP : va_P E.1 vwCl [(sa, aI E 8 f3)] H := hP
        have hD : va_D A [(sa, aI E 8 f3)] := hD
        refine lv_aload_n hx hb dX5_mixBlock_233 rfl (lv_at hl 9 rfl) ?_
        refine va_get (D := E.1) (ci := 6) (v := .ref sa) (C := RX5) (T := TX5) (N := 4) hx hb hts hiX5 hown hev.1 (xro hR0 hap hS) 0 rfl rfl 2 (by decide) hf19 (fun _ h9 => h9) rfl dX5_mixBlock_234 ?_
        refine lv_iconst (v := 2) hx hb dX5_mixBlock_237 (by decide) ?_
        refine lv_dup2_11 hx hb dX5_mixBlock_238 rfl rfl ?_
        refine xiald (k := 2) hx hb hev.1 hP 0 1 rfl rfl (by omega) (by decide) dX5_mixBlock_239 ?_
        refine lv_iload_n hx hb dX5_mixBlock_240 rfl (lv_at hl 3 rfl) ?_
        refine lv_iadd hx hb dX5_mixBlock_241 ?_
        refine xiast (k := 2) hx hb hev.1 hP hD hS 0 1 rfl rfl (by omega) (by decide) dX5_mixBlock_242 (fun H locs hP hD hS => ?_)
        obtain ⟨f4, ef4⟩ : ∃ y9_ : Nat → Int32, y9_ = upd f3 2 ((f3 2) + x2) := ⟨_, rfl⟩
        rw [← ef4] at hP hD
        have hP : va_P E.1 vwCl [(sa, aI E 8 f4)] H := hP
        have hD : va_D A [(sa, aI E 8 f4)] := hD
        refine lv_aload_n hx hb dX5_mixBlock_243 rfl (lv_at hl 9 rfl) ?_
        refine va_get (D := E.1) (ci := 6) (v := .ref sa) (C := RX5) (T := TX5) (N := 4) hx hb hts hiX5 hown hev.1 (xro hR0 hap hS) 0 rfl rfl 2 (by decide) hf19 (fun _ h9 => h9) rfl dX5_mixBlock_244 ?_
        refine lv_iconst (v := 3) hx hb dX5_mixBlock_247 (by decide) ?_
        refine lv_dup2_11 hx hb dX5_mixBlock_248 rfl rfl ?_
        refine xiald (k := 3) hx hb hev.1 hP 0 1 rfl rfl (by omega) (by decide) dX5_mixBlock_249 ?_
        refine lv_iload hx hb dX5_mixBlock_250 (lv_at hl 4 rfl) ?_
        refine lv_iadd hx hb dX5_mixBlock_252 ?_
        refine xiast (k := 3) hx hb hev.1 hP hD hS 0 1 rfl rfl (by omega) (by decide) dX5_mixBlock_253 (fun H locs hP hD hS => ?_)
        obtain ⟨f5, ef5⟩ : ∃ y9_ : Nat → Int32, y9_ = upd f4 3 ((f4 3) + x3) := ⟨_, rfl⟩
        rw [← ef5] at hP hD
        have hP : va_P E.1 vwCl [(sa, aI E 8 f5)] H := hP
        have hD : va_D A [(sa, aI E 8 f5)] := hD
        refine lv_aload_n hx hb dX5_mixBlock_254 rfl (lv_at hl 9 rfl) ?_
        refine va_get (D := E.1) (ci := 6) (v := .ref sa) (C := RX5) (T := TX5) (N := 4) hx hb hts hiX5 hown hev.1 (xro hR0 hap hS) 0 rfl rfl 2 (by decide) hf19 (fun _ h9 => h9) rfl dX5_mixBlock_255 ?_
        refine lv_iconst (v := 4) hx hb dX5_mixBlock_258 (by decide) ?_
        refine lv_dup2_11 hx hb dX5_mixBlock_259 rfl rfl ?_
        refine xiald (k := 4) hx hb hev.1 hP 0 1 rfl rfl (by omega) (by decide) dX5_mixBlock_260 ?_
        refine lv_iload hx hb dX5_mixBlock_261 (lv_at hl 5 rfl) ?_
        refine lv_iadd hx hb dX5_mixBlock_263 ?_
        refine xiast (k := 4) hx hb hev.1 hP hD hS 0 1 rfl rfl (by omega) (by decide) dX5_mixBlock_264 (fun H locs hP hD hS => ?_)
        obtain ⟨f6, ef6⟩ : ∃ y9_ : Nat → Int32, y9_ = upd f5 4 ((f5 4) + x4) := ⟨_, rfl⟩
        rw [← ef6] at hP hD
        have hP : va_P E.1 vwCl [(sa, aI E 8 f6)] H := hP
        have hD : va_D A [(sa, aI E 8 f6)] := hD
        refine lv_aload_n hx hb dX5_mixBlock_265 rfl (lv_at hl 9 rfl) ?_
        refine va_get (D := E.1) (ci := 6) (v := .ref sa) (C := RX5) (T := TX5) (N := 4) hx hb hts hiX5 hown hev.1 (xro hR0 hap hS) 0 rfl rfl 2 (by decide) hf19 (fun _ h9 => h9) rfl dX5_mixBlock_266 ?_
        refine lv_iconst (v := 5) hx hb dX5_mixBlock_269 (by decide) ?_
        refine lv_dup2_11 hx hb dX5_mixBlock_270 rfl rfl ?_
        refine xiald (k := 5) hx hb hev.1 hP 0 1 rfl rfl (by omega) (by decide) dX5_mixBlock_271 ?_
        refine lv_iload hx hb dX5_mixBlock_272 (lv_at hl 6 rfl) ?_
        refine lv_iadd hx hb dX5_mixBlock_274 ?_
        refine xiast (k := 5) hx hb hev.1 hP hD hS 0 1 rfl rfl (by omega) (by decide) dX5_mixBlock_275 (fun H locs hP hD hS => ?_)
        obtain ⟨f7, ef7⟩ : ∃ y9_ : Nat → Int32, y9_ = upd f6 5 ((f6 5) + x5) := ⟨_, rfl⟩
        rw [← ef7] at hP hD
        have hP : va_P E.1 vwCl [(sa, aI E 8 f7)] H := hP
        have hD : va_D A [(sa, aI E 8 f7)] := hD
        refine lv_aload_n hx hb dX5_mixBlock_276 rfl (lv_at hl 9 rfl) ?_
        refine va_get (D := E.1) (ci := 6) (v := .ref sa) (C := RX5) (T := TX5) (N := 4) hx hb hts hiX5 hown hev.1 (xro hR0 hap hS) 0 rfl rfl 2 (by decide) hf19 (fun _ h9 => h9) rfl dX5_mixBlock_277 ?_
        refine lv_bipush (v := 6) hx hb dX5_mixBlock_280 (by decide) ?_
        refine lv_dup2_11 hx hb dX5_mixBlock_282 rfl rfl ?_
        refine xiald (k := 6) hx hb hev.1 hP 0 1 rfl rfl (by omega) (by decide) dX5_mixBlock_283 ?_
        refine lv_iload hx hb dX5_mixBlock_284 (lv_at hl 7 rfl) ?_
        refine lv_iadd hx hb dX5_mixBlock_286 ?_
        refine xiast (k := 6) hx hb hev.1 hP hD hS 0 1 rfl rfl (by omega) (by decide) dX5_mixBlock_287 (fun H locs hP hD hS => ?_)
        obtain ⟨f8, ef8⟩ : ∃ y9_ : Nat → Int32, y9_ = upd f7 6 ((f7 6) + x6) := ⟨_, rfl⟩
        rw [← ef8] at hP hD
        have hP : va_P E.1 vwCl [(sa, aI E 8 f8)] H := hP
        have hD : va_D A [(sa, aI E 8 f8)] := hD
        refine lv_aload_n hx hb dX5_mixBlock_288 rfl (lv_at hl 9 rfl) ?_
        refine va_get (D := E.1) (ci := 6) (v := .ref sa) (C := RX5) (T := TX5) (N := 4) hx hb hts hiX5 hown hev.1 (xro hR0 hap hS) 0 rfl rfl 2 (by decide) hf19 (fun _ h9 => h9) rfl dX5_mixBlock_289 ?_
        refine lv_bipush (v := 7) hx hb dX5_mixBlock_292 (by decide) ?_
        refine lv_dup2_11 hx hb dX5_mixBlock_294 rfl rfl ?_
        refine xiald (k := 7) hx hb hev.1 hP 0 1 rfl rfl (by omega) (by decide) dX5_mixBlock_295 ?_
        refine lv_iload hx hb dX5_mixBlock_296 (lv_at hl 8 rfl) ?_
        refine lv_iadd hx hb dX5_mixBlock_298 ?_
        refine xiast (k := 7) hx hb hev.1 hP hD hS 0 1 rfl rfl (by omega) (by decide) dX5_mixBlock_299 (fun H locs hP hD hS => ?_)
        obtain ⟨f9, ef9⟩ : ∃ y9_ : Nat → Int32, y9_ = upd f8 7 ((f8 7) + x7) := ⟨_, rfl⟩
        rw [← ef9] at hP hD
        have hP : va_P E.1 vwCl [(sa, aI E 8 f9)] H := hP
        have hD : va_D A [(sa, aI E 8 f9)] := hD
        refine xrv hx hb hr hlocks hP hD hS ⟨f9, rfl, ?_⟩ dX5_mixBlock_300
        obtain rfl : t = 64 := by omega
        obtain ⟨e0, e1, e2, e3, e4, e5, e6, e7⟩ := hr8
        intro i hi
        subst_vars
        simp only [upd]
        rcases (show i = 0 ∨ i = 1 ∨ i = 2 ∨ i = 3 ∨ i = 4 ∨ i = 5 ∨ i = 6 ∨ i = 7 by omega) with rfl | rfl | rfl | rfl | rfl | rfl | rfl | rfl <;> rfl
      · skip
        have kc1 : ¬ 64 ≤ t := fun h9 => c1 ((nI_leI (a := 64) (b := t) (by omega) (by omega)).mpr h9)
        refine lv_iload hx hb dX5_mixBlock_73 (lv_at hl 5 rfl) ?_
        refine lv_bipush (v := 6) hx hb dX5_mixBlock_75 (by decide) ?_
        have hP := hP.sub (ws' := [] ++ [(sa, aI E 8 fa)]) [0] rfl
        have hD := hD.sub (ws' := [] ++ [(sa, aI E 8 fa)]) [0] (by decide) rfl
        refine xci (va_runS (As := [.int x4, .int 6]) (rest := []) ⟨hx, hb, hml, hown, hts⟩ (kJ6_rotateRight_7cf53 l E x4 6  H.size) (va_cwS 2 hts gX5_mixBlock_J6_rotateRight_7cf53 rfl rfl rfl (by decide +kernel) ⟨Nat.le_of_ble_eq_true rfl, Nat.le_of_ble_eq_true rfl⟩) ⟨CP.blind, (xpre hev hz hA hP hD hS hR0 hap [] rfl)⟩ rfl rfl hl.1 rfl (lv_room (Nat.le_of_ble_eq_true rfl)) dX5_mixBlock_77 ⟨Nat.le_of_ble_eq_true rfl, Nat.le_of_ble_eq_true rfl⟩) hP hD hS hA (fun r10 w11 H locs h12 hP hD hS => ?_)
        obtain ⟨rfl, rfl, h12⟩ := h12
        try dsimp only at h12
        have hP : va_P E.1 vwCl [(sa, aI E 8 fa)] H := hP
        have hD : va_D A [(sa, aI E 8 fa)] := hD
        refine lv_iload hx hb dX5_mixBlock_80 (lv_at hl 5 rfl) ?_
        refine lv_bipush (v := 11) hx hb dX5_mixBlock_82 (by decide) ?_
        have hP := hP.sub (ws' := [] ++ [(sa, aI E 8 fa)]) [0] rfl
        have hD := hD.sub (ws' := [] ++ [(sa, aI E 8 fa)]) [0] (by decide) rfl
        refine xci (va_runS (As := [.int x4, .int 11]) (rest := [.int (jrot x4 6)]) ⟨hx, hb, hml, hown, hts⟩ (kJ6_rotateRight_7cf53 l E x4 11  H.size) (va_cwS 2 hts gX5_mixBlock_J6_rotateRight_7cf53 rfl rfl rfl (by decide +kernel) ⟨Nat.le_of_ble_eq_true rfl, Nat.le_of_ble_eq_true rfl⟩) ⟨CP.blind, (xpre hev hz hA hP hD hS hR0 hap [] rfl)⟩ rfl rfl hl.1 rfl (lv_room (Nat.le_of_ble_eq_true rfl)) dX5_mixBlock_84 ⟨Nat.le_of_ble_eq_true rfl, Nat.le_of_ble_eq_true rfl⟩) hP hD hS hA (fun r13 w14 H locs h15 hP hD hS => ?_)
        obtain ⟨rfl, rfl, h15⟩ := h15
        try dsimp only at h15
        have hP : va_P E.1 vwCl [(sa, aI E 8 fa)] H := hP
        have hD : va_D A [(sa, aI E 8 fa)] := hD
        refine lv_ixor hx hb dX5_mixBlock_87 ?_
        refine lv_iload hx hb dX5_mixBlock_88 (lv_at hl 5 rfl) ?_
        refine lv_bipush (v := 25) hx hb dX5_mixBlock_90 (by decide) ?_
        have hP := hP.sub (ws' := [] ++ [(sa, aI E 8 fa)]) [0] rfl
        have hD := hD.sub (ws' := [] ++ [(sa, aI E 8 fa)]) [0] (by decide) rfl
        refine xci (va_runS (As := [.int x4, .int 25]) (rest := [.int ((jrot x4 6) ^^^ (jrot x4 11))]) ⟨hx, hb, hml, hown, hts⟩ (kJ6_rotateRight_7cf53 l E x4 25  H.size) (va_cwS 2 hts gX5_mixBlock_J6_rotateRight_7cf53 rfl rfl rfl (by decide +kernel) ⟨Nat.le_of_ble_eq_true rfl, Nat.le_of_ble_eq_true rfl⟩) ⟨CP.blind, (xpre hev hz hA hP hD hS hR0 hap [] rfl)⟩ rfl rfl hl.1 rfl (lv_room (Nat.le_of_ble_eq_true rfl)) dX5_mixBlock_92 ⟨Nat.le_of_ble_eq_true rfl, Nat.le_of_ble_eq_true rfl⟩) hP hD hS hA (fun r16 w17 H locs h18 hP hD hS => ?_)
        obtain ⟨rfl, rfl, h18⟩ := h18
        try dsimp only at h18
        have hP : va_P E.1 vwCl [(sa, aI E 8 fa)] H := hP
        have hD : va_D A [(sa, aI E 8 fa)] := hD
        refine lv_ixor hx hb dX5_mixBlock_95 ?_
        refine lv_topi (fun v19 ev19 => ?_)
        refine lv_istore (lv' := [(10, .int v19), (9, .int (nI t)), (1, .int x0), (2, .int x1), (3, .int x2), (4, .int x3), (5, .int x4), (6, .int x5), (7, .int x6), (8, .int x7), (0, .ref h)]) hx hb dX5_mixBlock_96 hl (by decide) rfl (fun ls hl => ?_)
        refine lv_iload hx hb dX5_mixBlock_98 (lv_at hl 6 rfl) ?_
        refine lv_iload hx hb dX5_mixBlock_100 (lv_at hl 7 rfl) ?_
        refine lv_iand hx hb dX5_mixBlock_102 ?_
        refine lv_iload hx hb dX5_mixBlock_103 (lv_at hl 6 rfl) ?_
        refine lv_iconst (v := (-1)) hx hb dX5_mixBlock_105 (by decide) ?_
        refine lv_ixor hx hb dX5_mixBlock_106 ?_
        refine lv_iload hx hb dX5_mixBlock_107 (lv_at hl 8 rfl) ?_
        refine lv_iand hx hb dX5_mixBlock_109 ?_
        refine lv_ixor hx hb dX5_mixBlock_110 ?_
        refine lv_istore (lv' := [(11, .int ((x4 &&& x5) ^^^ ((x4 ^^^ (-1)) &&& x6))), (10, .int v19), (9, .int (nI t)), (1, .int x0), (2, .int x1), (3, .int x2), (4, .int x3), (5, .int x4), (6, .int x5), (7, .int x6), (8, .int x7), (0, .ref h)]) hx hb dX5_mixBlock_111 hl (by decide) rfl (fun ls hl => ?_)
        refine lv_iload hx hb dX5_mixBlock_113 (lv_at hl 10 rfl) ?_
        refine lv_iload hx hb dX5_mixBlock_115 (lv_at hl 1 rfl) ?_
        refine lv_iadd hx hb dX5_mixBlock_117 ?_
        refine lv_iload hx hb dX5_mixBlock_118 (lv_at hl 0 rfl) ?_
        refine lv_iadd hx hb dX5_mixBlock_120 ?_
        refine va_gets hx hb hz.2.1 hS hown hf59 (fun _ h9 => h9) dX5_mixBlock_121 ?_
        refine lv_iload hx hb dX5_mixBlock_124 (lv_at hl 2 rfl) ?_
        refine xti (k := t) hx hb hz.2.2 hS (by omega) (by decide) rfl dX5_mixBlock_126 ?_
        refine lv_iadd hx hb dX5_mixBlock_127 ?_
        refine lv_aload_n hx hb dX5_mixBlock_128 rfl (lv_at hl 11 rfl) ?_
        refine va_get (D := E.1) (ci := 6) (v := .ref sc) (C := RX5) (T := TX5) (N := 4) hx hb hts hiX5 hown hev.1 (xro hR0 hap hS) 0 rfl rfl 1 (by decide) hf15 (fun _ h9 => h9) rfl dX5_mixBlock_129 ?_
        refine lv_iload hx hb dX5_mixBlock_132 (lv_at hl 2 rfl) ?_
        refine xiald (k := (t)) hx hb hev.1 (xro hR0 hap hS) 1 1 rfl rfl (by omega) (by decide) dX5_mixBlock_134 ?_
        refine lv_iadd hx hb dX5_mixBlock_135 ?_
        refine lv_topi (fun v20 ev20 => ?_)
        refine lv_istore (lv' := [(12, .int v20), (11, .int ((x4 &&& x5) ^^^ ((x4 ^^^ (-1)) &&& x6))), (10, .int v19), (9, .int (nI t)), (1, .int x0), (2, .int x1), (3, .int x2), (4, .int x3), (5, .int x4), (6, .int x5), (7, .int x6), (8, .int x7), (0, .ref h)]) hx hb dX5_mixBlock_136 hl (by decide) rfl (fun ls hl => ?_)
        refine lv_iload_n hx hb dX5_mixBlock_138 rfl (lv_at hl 4 rfl) ?_
        refine lv_iconst (v := 2) hx hb dX5_mixBlock_139 (by decide) ?_
        have hP := hP.sub (ws' := [] ++ [(sa, aI E 8 fa)]) [0] rfl
        have hD := hD.sub (ws' := [] ++ [(sa, aI E 8 fa)]) [0] (by decide) rfl
        refine xci (va_runS (As := [.int x0, .int 2]) (rest := []) ⟨hx, hb, hml, hown, hts⟩ (kJ6_rotateRight_7cf53 l E x0 2  H.size) (va_cwS 2 hts gX5_mixBlock_J6_rotateRight_7cf53 rfl rfl rfl (by decide +kernel) ⟨Nat.le_of_ble_eq_true rfl, Nat.le_of_ble_eq_true rfl⟩) ⟨CP.blind, (xpre hev hz hA hP hD hS hR0 hap [] rfl)⟩ rfl rfl hl.1 rfl (lv_room (Nat.le_of_ble_eq_true rfl)) dX5_mixBlock_140 ⟨Nat.le_of_ble_eq_true rfl, Nat.le_of_ble_eq_true rfl⟩) hP hD hS hA (fun r21 w22 H locs h23 hP hD hS => ?_)
        obtain ⟨rfl, rfl, h23⟩ := h23
        try dsimp only at h23
        have hP : va_P E.1 vwCl [(sa, aI E 8 fa)] H := hP
        have hD : va_D A [(sa, aI E 8 fa)] := hD
        refine lv_iload_n hx hb dX5_mixBlock_143 rfl (lv_at hl 4 rfl) ?_
        refine lv_bipush (v := 13) hx hb dX5_mixBlock_144 (by decide) ?_
        have hP := hP.sub (ws' := [] ++ [(sa, aI E 8 fa)]) [0] rfl
        have hD := hD.sub (ws' := [] ++ [(sa, aI E 8 fa)]) [0] (by decide) rfl
        refine xci (va_runS (As := [.int x0, .int 13]) (rest := [.int (jrot x0 2)]) ⟨hx, hb, hml, hown, hts⟩ (kJ6_rotateRight_7cf53 l E x0 13  H.size) (va_cwS 2 hts gX5_mixBlock_J6_rotateRight_7cf53 rfl rfl rfl (by decide +kernel) ⟨Nat.le_of_ble_eq_true rfl, Nat.le_of_ble_eq_true rfl⟩) ⟨CP.blind, (xpre hev hz hA hP hD hS hR0 hap [] rfl)⟩ rfl rfl hl.1 rfl (lv_room (Nat.le_of_ble_eq_true rfl)) dX5_mixBlock_146 ⟨Nat.le_of_ble_eq_true rfl, Nat.le_of_ble_eq_true rfl⟩) hP hD hS hA (fun r24 w25 H locs h26 hP hD hS => ?_)
        obtain ⟨rfl, rfl, h26⟩ := h26
        try dsimp only at h26
        have hP : va_P E.1 vwCl [(sa, aI E 8 fa)] H := hP
        have hD : va_D A [(sa, aI E 8 fa)] := hD
        refine lv_ixor hx hb dX5_mixBlock_149 ?_
        refine lv_iload_n hx hb dX5_mixBlock_150 rfl (lv_at hl 4 rfl) ?_
        refine lv_bipush (v := 22) hx hb dX5_mixBlock_151 (by decide) ?_
        have hP := hP.sub (ws' := [] ++ [(sa, aI E 8 fa)]) [0] rfl
        have hD := hD.sub (ws' := [] ++ [(sa, aI E 8 fa)]) [0] (by decide) rfl
        refine xci (va_runS (As := [.int x0, .int 22]) (rest := [.int ((jrot x0 2) ^^^ (jrot x0 13))]) ⟨hx, hb, hml, hown, hts⟩ (kJ6_rotateRight_7cf53 l E x0 22  H.size) (va_cwS 2 hts gX5_mixBlock_J6_rotateRight_7cf53 rfl rfl rfl (by decide +kernel) ⟨Nat.le_of_ble_eq_true rfl, Nat.le_of_ble_eq_true rfl⟩) ⟨CP.blind, (xpre hev hz hA hP hD hS hR0 hap [] rfl)⟩ rfl rfl hl.1 rfl (lv_room (Nat.le_of_ble_eq_true rfl)) dX5_mixBlock_153 ⟨Nat.le_of_ble_eq_true rfl, Nat.le_of_ble_eq_true rfl⟩) hP hD hS hA (fun r27 w28 H locs h29 hP hD hS => ?_)
        obtain ⟨rfl, rfl, h29⟩ := h29
        try dsimp only at h29
        have hP : va_P E.1 vwCl [(sa, aI E 8 fa)] H := hP
        have hD : va_D A [(sa, aI E 8 fa)] := hD
        refine lv_ixor hx hb dX5_mixBlock_156 ?_
        refine lv_topi (fun v30 ev30 => ?_)
        refine lv_istore (lv' := [(13, .int v30), (12, .int v20), (11, .int ((x4 &&& x5) ^^^ ((x4 ^^^ (-1)) &&& x6))), (10, .int v19), (9, .int (nI t)), (1, .int x0), (2, .int x1), (3, .int x2), (4, .int x3), (5, .int x4), (6, .int x5), (7, .int x6), (8, .int x7), (0, .ref h)]) hx hb dX5_mixBlock_157 hl (by decide) rfl (fun ls hl => ?_)
        refine lv_iload_n hx hb dX5_mixBlock_159 rfl (lv_at hl 5 rfl) ?_
        refine lv_iload_n hx hb dX5_mixBlock_160 rfl (lv_at hl 6 rfl) ?_
        refine lv_iand hx hb dX5_mixBlock_161 ?_
        refine lv_iload_n hx hb dX5_mixBlock_162 rfl (lv_at hl 5 rfl) ?_
        refine lv_iload_n hx hb dX5_mixBlock_163 rfl (lv_at hl 7 rfl) ?_
        refine lv_iand hx hb dX5_mixBlock_164 ?_
        refine lv_ixor hx hb dX5_mixBlock_165 ?_
        refine lv_iload_n hx hb dX5_mixBlock_166 rfl (lv_at hl 6 rfl) ?_
        refine lv_iload_n hx hb dX5_mixBlock_167 rfl (lv_at hl 7 rfl) ?_
        refine lv_iand hx hb dX5_mixBlock_168 ?_
        refine lv_ixor hx hb dX5_mixBlock_169 ?_
        refine lv_topi (fun v31 ev31 => ?_)
        refine lv_istore (lv' := [(14, .int v31), (13, .int v30), (12, .int v20), (11, .int ((x4 &&& x5) ^^^ ((x4 ^^^ (-1)) &&& x6))), (10, .int v19), (9, .int (nI t)), (1, .int x0), (2, .int x1), (3, .int x2), (4, .int x3), (5, .int x4), (6, .int x5), (7, .int x6), (8, .int x7), (0, .ref h)]) hx hb dX5_mixBlock_170 hl (by decide) rfl (fun ls hl => ?_)
        refine lv_iload hx hb dX5_mixBlock_172 (lv_at hl 12 rfl) ?_
        refine lv_istore (lv' := [(8, .int x6), (14, .int v31), (13, .int v30), (12, .int v20), (11, .int ((x4 &&& x5) ^^^ ((x4 ^^^ (-1)) &&& x6))), (10, .int v19), (9, .int (nI t)), (1, .int x0), (2, .int x1), (3, .int x2), (4, .int x3), (5, .int x4), (6, .int x5), (7, .int x6), (0, .ref h)]) hx hb dX5_mixBlock_174 hl (by decide) rfl (fun ls hl => ?_)
        refine lv_iload hx hb dX5_mixBlock_176 (lv_at hl 12 rfl) ?_
        refine lv_istore (lv' := [(7, .int x5), (8, .int x6), (14, .int v31), (13, .int v30), (12, .int v20), (11, .int ((x4 &&& x5) ^^^ ((x4 ^^^ (-1)) &&& x6))), (10, .int v19), (9, .int (nI t)), (1, .int x0), (2, .int x1), (3, .int x2), (4, .int x3), (5, .int x4), (6, .int x5), (0, .ref h)]) hx hb dX5_mixBlock_178 hl (by decide) rfl (fun ls hl => ?_)
        refine lv_iload hx hb dX5_mixBlock_180 (lv_at hl 12 rfl) ?_
        refine lv_istore (lv' := [(6, .int x4), (7, .int x5), (8, .int x6), (14, .int v31), (13, .int v30), (12, .int v20), (11, .int ((x4 &&& x5) ^^^ ((x4 ^^^ (-1)) &&& x6))), (10, .int v19), (9, .int (nI t)), (1, .int x0), (2, .int x1), (3, .int x2), (4, .int x3), (5, .int x4), (0, .ref h)]) hx hb dX5_mixBlock_182 hl (by decide) rfl (fun ls hl => ?_)
        refine lv_iload hx hb dX5_mixBlock_184 (lv_at hl 12 rfl) ?_
        refine lv_iload hx hb dX5_mixBlock_186 (lv_at hl 5 rfl) ?_
        refine lv_iadd hx hb dX5_mixBlock_188 ?_
        refine lv_istore (lv' := [(5, .int (x3 + v20)), (6, .int x4), (7, .int x5), (8, .int x6), (14, .int v31), (13, .int v30), (12, .int v20), (11, .int ((x4 &&& x5) ^^^ ((x4 ^^^ (-1)) &&& x6))), (10, .int v19), (9, .int (nI t)), (1, .int x0), (2, .int x1), (3, .int x2), (4, .int x3), (0, .ref h)]) hx hb dX5_mixBlock_189 hl (by decide) rfl (fun ls hl => ?_)
        refine lv_iload_n hx hb dX5_mixBlock_191 rfl (lv_at hl 12 rfl) ?_
        refine lv_istore (lv' := [(4, .int x2), (5, .int (x3 + v20)), (6, .int x4), (7, .int x5), (8, .int x6), (14, .int v31), (13, .int v30), (12, .int v20), (11, .int ((x4 &&& x5) ^^^ ((x4 ^^^ (-1)) &&& x6))), (10, .int v19), (9, .int (nI t)), (1, .int x0), (2, .int x1), (3, .int x2), (0, .ref h)]) hx hb dX5_mixBlock_192 hl (by decide) rfl (fun ls hl => ?_)
        refine lv_iload_n hx hb dX5_mixBlock_194 rfl (lv_at hl 12 rfl) ?_
        refine lv_istore_n (lv' := [(3, .int x1), (4, .int x2), (5, .int (x3 + v20)), (6, .int x4), (7, .int x5), (8, .int x6), (14, .int v31), (13, .int v30), (12, .int v20), (11, .int ((x4 &&& x5) ^^^ ((x4 ^^^ (-1)) &&& x6))), (10, .int v19), (9, .int (nI t)), (1, .int x0), (2, .int x1), (0, .ref h)]) hx hb dX5_mixBlock_195 rfl hl (by decide) rfl (fun ls hl => ?_)
        refine lv_iload_n hx hb dX5_mixBlock_196 rfl (lv_at hl 12 rfl) ?_
        refine lv_istore_n (lv' := [(2, .int x0), (3, .int x1), (4, .int x2), (5, .int (x3 + v20)), (6, .int x4), (7, .int x5), (8, .int x6), (14, .int v31), (13, .int v30), (12, .int v20), (11, .int ((x4 &&& x5) ^^^ ((x4 ^^^ (-1)) &&& x6))), (10, .int v19), (9, .int (nI t)), (1, .int x0), (0, .ref h)]) hx hb dX5_mixBlock_197 rfl hl (by decide) rfl (fun ls hl => ?_)
        refine lv_iload hx hb dX5_mixBlock_198 (lv_at hl 9 rfl) ?_
        refine lv_iload hx hb dX5_mixBlock_200 (lv_at hl 8 rfl) ?_
        refine lv_iadd hx hb dX5_mixBlock_202 ?_
        refine lv_iload hx hb dX5_mixBlock_203 (lv_at hl 7 rfl) ?_
        refine lv_iadd hx hb dX5_mixBlock_205 ?_
        refine lv_istore_n (lv' := [(1, .int ((v20 + v30) + v31)), (2, .int x0), (3, .int x1), (4, .int x2), (5, .int (x3 + v20)), (6, .int x4), (7, .int x5), (8, .int x6), (14, .int v31), (13, .int v30), (12, .int v20), (11, .int ((x4 &&& x5) ^^^ ((x4 ^^^ (-1)) &&& x6))), (10, .int v19), (9, .int (nI t)), (0, .ref h)]) hx hb dX5_mixBlock_206 rfl hl (by decide) rfl (fun ls hl => ?_)
        refine lv_iinc (v := nI (t + 1)) (lv' := [(9, .int (nI (t + 1))), (1, .int ((v20 + v30) + v31)), (2, .int x0), (3, .int x1), (4, .int x2), (5, .int (x3 + v20)), (6, .int x4), (7, .int x5), (8, .int x6), (14, .int v31), (13, .int v30), (12, .int v20), (11, .int ((x4 &&& x5) ^^^ ((x4 ^^^ (-1)) &&& x6))), (10, .int v19), (0, .ref h)]) hx hb dX5_mixBlock_207 hl (k := 13) rfl ((nI_add t 1).trans (congrArg nI (by omega))) (by decide) rfl (fun ls hl => ?_)
        refine lv_goto (tgt := 66) hx hb dX5_mixBlock_210 (by decide) ?_
        exact ih  (t + 1) ((v20 + v30) + v31) x0 x1 x2 (x3 + v20) x4 x5 x6 (by omega) (by obtain ⟨e0, e1, e2, e3, e4, e5, e6, e7⟩ := hr8; subst_vars; exact ⟨rfl, rfl, rfl, rfl, rfl, rfl, rfl, rfl⟩) (by omega) _ _ hP hD hS ls (lv_sub hl [0, 1, 2, 3, 4, 5, 6, 7, 8, 14] rfl)
  exact loop66 65 0 (fa 0) (fa 1) (fa 2) (fa 3) (fa 4) (fa 5) (fa 6) (fa 7) (by omega) (⟨rfl, rfl, rfl, rfl, rfl, rfl, rfl, rfl⟩) (by omega) _ _ hP hD hS ls (lv_sub hl [0, 8, 7, 6, 5, 4, 3, 2, 1, 9] rfl)
