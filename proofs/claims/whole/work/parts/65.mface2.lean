abbrev pX8_parts15 (E : xE) (v : Int32) (r : Int32) (w : va_W) : Prop := w = [] ∧ r = nI (cnt v 15) ∧ (True)
set_option maxHeartbeats 4000000 in
set_option maxRecDepth 100000 in
theorem kX8_parts15 (l : Launch) (E : xE) (v : Int32)  : KT l yX8_partsOf wsX8_partsOf 0 0 0 0 E [] [] [.int v, .int 15] (QI E (pX8_parts15 E v)) := by
  refine KT.start (cc := cX8_partsOf) (maxL := 4) (ret := (some .int)) (by decide) rfl (Nat.le_of_ble_eq_true rfl) ?_
  intro p e s m below meth c A H hx hb hr hlocks hml hts hown hin hP hR0 hD hap hev hz hA hS ls hl
  have hl : lv_has ls 4 [(0, .int v), (1, .int 15)] := hl
  have hk257 := hts (.constant RX8 257 (16777216)) (by decide +kernel)
  refine lv_iload_n hx hb dX8_partsOf_0 rfl (lv_at hl 0 rfl) ?_
  refine lv_if_le (tgt := 11) hx hb dX8_partsOf_1 (by decide) (fun c1 => ?_) (fun c1 => ?_)
  · skip
    refine lv_iconst (v := 0) hx hb dX8_partsOf_11 (by decide) ?_
    refine xri hx hb hr hlocks hP hD hS ⟨rfl, ?_, ?_⟩ dX8_partsOf_12
    · exact (congrArg nI (cnt_no1 c1)).symm
    · trivial
  · skip
    refine lv_iload_n hx hb dX8_partsOf_4 rfl (lv_at hl 0 rfl) ?_
    refine lv_ldcw hx hb hown hk257 dX8_partsOf_5 ?_
    refine lv_icmp_lt (tgt := 13) hx hb dX8_partsOf_8 (by decide) (fun c2 => ?_) (fun c2 => ?_)
    · skip
      have hpos := c1
      obtain ⟨N, hN0, hN2, hv⟩ := cnt_N hpos c2
      refine lv_iconst (v := 0) hx hb dX8_partsOf_13 (by decide) ?_
      refine lv_istore_n (lv' := [(2, .int 0), (0, .int v), (1, .int 15)]) hx hb dX8_partsOf_14 rfl hl (by decide) rfl (fun ls hl => ?_)
      refine lv_iload_n hx hb dX8_partsOf_15 rfl (lv_at hl 1 rfl) ?_
      refine xtop (y := nI N) (hv) ?_
      refine lv_istore_n (lv' := [(3, .int (nI N)), (2, .int 0), (0, .int v), (1, .int 15)]) hx hb dX8_partsOf_16 rfl hl (by decide) rfl (fun ls hl => ?_)
      have loop17 : ∀ (fz17 : Nat) (n : Nat) (R : Nat), (n ≤ 6) → (R = N / 2 ^ (n * 4)) → (cpt v (nI 15) (6 - n) n = cnt v (nI 15)) → (6 - n < fz17) → ∀ (H : Heap) (locs : List Loc), va_P E.1 vwCl [] H → va_D A [] → va_S A s.heap H locs → ∀ ls : Array Slot, lv_has ls 4 [(3, .int (nI R)), (2, .int (nI n)), (1, .int 15)] → W p l e ({ frames := 0, cells := 0, slots := 0, locals := 0 } : Room) s m ([.int v, .int 15] : List Value).toArray below meth c H locs 0 0 (MQ below (QI E (pX8_parts15 E v) A) ([.int v, .int 15] : List Value).toArray s 0 0 A) (F0 m 17 ls []) := by
        intro fz17
        induction fz17 with
        | zero =>
          intro n R hn hR hc hfuel
          exact absurd hfuel (by omega)
        | succ fz17 ih17 =>
          intro n R hn hR hc hfuel H locs hP hD hS ls hl
          have hRb := cn_b hN2 hR
          refine lv_iload_n hx hb dX8_partsOf_17 rfl (lv_at hl 0 rfl) ?_
          refine lv_if_le (tgt := 48) hx hb dX8_partsOf_18 (by decide) (fun c3 => ?_) (fun c3 => ?_)
          · skip
            have kc3 : R ≤ 0 := (nI_leI (a := R) (b := 0) (by omega) (by omega)).mp c3
            refine lv_iload_n hx hb dX8_partsOf_48 rfl (lv_at hl 1 rfl) ?_
            refine xri hx hb hr hlocks hP hD hS ⟨rfl, ?_, ?_⟩ dX8_partsOf_49
            · exact (congrArg nI (cn_end (h := 15) hv hN2 hR hn hc kc3)).symm
            · trivial
          · skip
            have kc3 : ¬ R ≤ 0 := fun h9 => c3 ((nI_leI (a := R) (b := 0) (by omega) (by omega)).mpr h9)
            refine lv_iload_n hx hb dX8_partsOf_21 rfl (lv_at hl 0 rfl) ?_
            refine lv_bipush (v := 15) hx hb dX8_partsOf_22 (by decide) ?_
            refine lv_iand hx hb dX8_partsOf_24 ?_
            refine xtop (y := nI (R % 16)) (pk_andN (n := R) (by omega) 4 (by decide)) ?_
            refine lv_if_eq (tgt := 36) hx hb dX8_partsOf_25 (by decide) (fun c4 => ?_) (fun c4 => ?_)
            · skip
              have kc4 : (R % 16) = 0 := (nI_eq (a := (R % 16)) (b := 0) (by omega) (by omega)).mp c4
              refine lv_iconst (v := 0) hx hb dX8_partsOf_36 (by decide) ?_
              refine xri hx hb hr hlocks hP hD hS ⟨rfl, ?_, ?_⟩ dX8_partsOf_37
              · exact (congrArg nI (cn_bad (h := 15) hv hN2 hR hn (by decide) hc kc3 (Or.inl kc4))).symm
              · trivial
            · skip
              have kc4 : ¬ (R % 16) = 0 := fun h9 => c4 ((nI_eq (a := (R % 16)) (b := 0) (by omega) (by omega)).mpr h9)
              refine lv_iload_n hx hb dX8_partsOf_28 rfl (lv_at hl 0 rfl) ?_
              refine lv_bipush (v := 15) hx hb dX8_partsOf_29 (by decide) ?_
              refine lv_iand hx hb dX8_partsOf_31 ?_
              refine xtop (y := nI (R % 16)) (pk_andN (n := R) (by omega) 4 (by decide)) ?_
              refine lv_iload_n hx hb dX8_partsOf_32 rfl (lv_at hl 2 rfl) ?_
              refine lv_icmp_le (tgt := 38) hx hb dX8_partsOf_33 (by decide) (fun c5 => ?_) (fun c5 => ?_)
              · skip
                have kc5 : (R % 16) ≤ 15 := (nI_leI (a := (R % 16)) (b := 15) (by omega) (by omega)).mp c5
                have hstp := cn_step (h := 15) hv hN2 hR hn (by decide) hc kc3 kc4 kc5
                have hn6 := hstp.1
                refine lv_iinc (v := nI (n + 1)) (lv' := [(2, .int (nI (n + 1))), (3, .int (nI R)), (1, .int 15)]) hx hb dX8_partsOf_38 hl (k := 1) rfl ((nI_add n 1).trans (congrArg nI (by omega))) (by decide) rfl (fun ls hl => ?_)
                refine lv_iload_n hx hb dX8_partsOf_41 rfl (lv_at hl 1 rfl) ?_
                refine lv_iconst (v := 4) hx hb dX8_partsOf_42 (by decide) ?_
                refine lv_ishr hx hb dX8_partsOf_43 ?_
                refine xtop (y := nI (R / 16)) (sh4 (by omega)) ?_
                refine lv_istore_n (lv' := [(3, .int (nI (R / 16))), (2, .int (nI (n + 1))), (1, .int 15)]) hx hb dX8_partsOf_44 rfl hl (by decide) rfl (fun ls hl => ?_)
                refine lv_goto (tgt := 17) hx hb dX8_partsOf_45 (by decide) ?_
                exact ih17  (n + 1) (R / 16) (hstp.1) (hstp.2.1) (hstp.2.2) (by omega) _ _ hP hD hS ls (lv_sub hl [0, 1, 2] rfl)
              · skip
                have kc5 : ¬ (R % 16) ≤ 15 := fun h9 => c5 ((nI_leI (a := (R % 16)) (b := 15) (by omega) (by omega)).mpr h9)
                refine lv_iconst (v := 0) hx hb dX8_partsOf_36 (by decide) ?_
                refine xri hx hb hr hlocks hP hD hS ⟨rfl, ?_, ?_⟩ dX8_partsOf_37
                · exact (congrArg nI (cn_bad (h := 15) hv hN2 hR hn (by decide) hc kc3 (Or.inr kc5))).symm
                · trivial
      exact loop17 7 0 N (by omega) (by simp) (cnt_go hv hpos hN2) (by omega) _ _ hP hD hS ls (lv_sub hl [0, 1, 3] rfl)
    · skip
      refine lv_iconst (v := 0) hx hb dX8_partsOf_11 (by decide) ?_
      refine xri hx hb hr hlocks hP hD hS ⟨rfl, ?_, ?_⟩ dX8_partsOf_12
      · exact (congrArg nI (cnt_no2 c1 c2)).symm
      · trivial

abbrev pX8_parts14 (E : xE) (v : Int32) (r : Int32) (w : va_W) : Prop := w = [] ∧ r = nI (cnt v 14) ∧ (True)
set_option maxHeartbeats 4000000 in
set_option maxRecDepth 100000 in
theorem kX8_parts14 (l : Launch) (E : xE) (v : Int32)  : KT l yX8_partsOf wsX8_partsOf 0 0 0 0 E [] [] [.int v, .int 14] (QI E (pX8_parts14 E v)) := by
  refine KT.start (cc := cX8_partsOf) (maxL := 4) (ret := (some .int)) (by decide) rfl (Nat.le_of_ble_eq_true rfl) ?_
  intro p e s m below meth c A H hx hb hr hlocks hml hts hown hin hP hR0 hD hap hev hz hA hS ls hl
  have hl : lv_has ls 4 [(0, .int v), (1, .int 14)] := hl
  have hk257 := hts (.constant RX8 257 (16777216)) (by decide +kernel)
  refine lv_iload_n hx hb dX8_partsOf_0 rfl (lv_at hl 0 rfl) ?_
  refine lv_if_le (tgt := 11) hx hb dX8_partsOf_1 (by decide) (fun c1 => ?_) (fun c1 => ?_)
  · skip
    refine lv_iconst (v := 0) hx hb dX8_partsOf_11 (by decide) ?_
    refine xri hx hb hr hlocks hP hD hS ⟨rfl, ?_, ?_⟩ dX8_partsOf_12
    · exact (congrArg nI (cnt_no1 c1)).symm
    · trivial
  · skip
    refine lv_iload_n hx hb dX8_partsOf_4 rfl (lv_at hl 0 rfl) ?_
    refine lv_ldcw hx hb hown hk257 dX8_partsOf_5 ?_
    refine lv_icmp_lt (tgt := 13) hx hb dX8_partsOf_8 (by decide) (fun c2 => ?_) (fun c2 => ?_)
    · skip
      have hpos := c1
      obtain ⟨N, hN0, hN2, hv⟩ := cnt_N hpos c2
      refine lv_iconst (v := 0) hx hb dX8_partsOf_13 (by decide) ?_
      refine lv_istore_n (lv' := [(2, .int 0), (0, .int v), (1, .int 14)]) hx hb dX8_partsOf_14 rfl hl (by decide) rfl (fun ls hl => ?_)
      refine lv_iload_n hx hb dX8_partsOf_15 rfl (lv_at hl 1 rfl) ?_
      refine xtop (y := nI N) (hv) ?_
      refine lv_istore_n (lv' := [(3, .int (nI N)), (2, .int 0), (0, .int v), (1, .int 14)]) hx hb dX8_partsOf_16 rfl hl (by decide) rfl (fun ls hl => ?_)
      have loop17 : ∀ (fz17 : Nat) (n : Nat) (R : Nat), (n ≤ 6) → (R = N / 2 ^ (n * 4)) → (cpt v (nI 14) (6 - n) n = cnt v (nI 14)) → (6 - n < fz17) → ∀ (H : Heap) (locs : List Loc), va_P E.1 vwCl [] H → va_D A [] → va_S A s.heap H locs → ∀ ls : Array Slot, lv_has ls 4 [(3, .int (nI R)), (2, .int (nI n)), (1, .int 14)] → W p l e ({ frames := 0, cells := 0, slots := 0, locals := 0 } : Room) s m ([.int v, .int 14] : List Value).toArray below meth c H locs 0 0 (MQ below (QI E (pX8_parts14 E v) A) ([.int v, .int 14] : List Value).toArray s 0 0 A) (F0 m 17 ls []) := by
        intro fz17
        induction fz17 with
        | zero =>
          intro n R hn hR hc hfuel
          exact absurd hfuel (by omega)
        | succ fz17 ih17 =>
          intro n R hn hR hc hfuel H locs hP hD hS ls hl
          have hRb := cn_b hN2 hR
          refine lv_iload_n hx hb dX8_partsOf_17 rfl (lv_at hl 0 rfl) ?_
          refine lv_if_le (tgt := 48) hx hb dX8_partsOf_18 (by decide) (fun c3 => ?_) (fun c3 => ?_)
          · skip
            have kc3 : R ≤ 0 := (nI_leI (a := R) (b := 0) (by omega) (by omega)).mp c3
            refine lv_iload_n hx hb dX8_partsOf_48 rfl (lv_at hl 1 rfl) ?_
            refine xri hx hb hr hlocks hP hD hS ⟨rfl, ?_, ?_⟩ dX8_partsOf_49
            · exact (congrArg nI (cn_end (h := 14) hv hN2 hR hn hc kc3)).symm
            · trivial
          · skip
            have kc3 : ¬ R ≤ 0 := fun h9 => c3 ((nI_leI (a := R) (b := 0) (by omega) (by omega)).mpr h9)
            refine lv_iload_n hx hb dX8_partsOf_21 rfl (lv_at hl 0 rfl) ?_
            refine lv_bipush (v := 15) hx hb dX8_partsOf_22 (by decide) ?_
            refine lv_iand hx hb dX8_partsOf_24 ?_
            refine xtop (y := nI (R % 16)) (pk_andN (n := R) (by omega) 4 (by decide)) ?_
            refine lv_if_eq (tgt := 36) hx hb dX8_partsOf_25 (by decide) (fun c4 => ?_) (fun c4 => ?_)
            · skip
              have kc4 : (R % 16) = 0 := (nI_eq (a := (R % 16)) (b := 0) (by omega) (by omega)).mp c4
              refine lv_iconst (v := 0) hx hb dX8_partsOf_36 (by decide) ?_
              refine xri hx hb hr hlocks hP hD hS ⟨rfl, ?_, ?_⟩ dX8_partsOf_37
              · exact (congrArg nI (cn_bad (h := 14) hv hN2 hR hn (by decide) hc kc3 (Or.inl kc4))).symm
              · trivial
            · skip
              have kc4 : ¬ (R % 16) = 0 := fun h9 => c4 ((nI_eq (a := (R % 16)) (b := 0) (by omega) (by omega)).mpr h9)
              refine lv_iload_n hx hb dX8_partsOf_28 rfl (lv_at hl 0 rfl) ?_
              refine lv_bipush (v := 15) hx hb dX8_partsOf_29 (by decide) ?_
              refine lv_iand hx hb dX8_partsOf_31 ?_
              refine xtop (y := nI (R % 16)) (pk_andN (n := R) (by omega) 4 (by decide)) ?_
              refine lv_iload_n hx hb dX8_partsOf_32 rfl (lv_at hl 2 rfl) ?_
              refine lv_icmp_le (tgt := 38) hx hb dX8_partsOf_33 (by decide) (fun c5 => ?_) (fun c5 => ?_)
              · skip
                have kc5 : (R % 16) ≤ 14 := (nI_leI (a := (R % 16)) (b := 14) (by omega) (by omega)).mp c5
                have hstp := cn_step (h := 14) hv hN2 hR hn (by decide) hc kc3 kc4 kc5
                have hn6 := hstp.1
                refine lv_iinc (v := nI (n + 1)) (lv' := [(2, .int (nI (n + 1))), (3, .int (nI R)), (1, .int 14)]) hx hb dX8_partsOf_38 hl (k := 1) rfl ((nI_add n 1).trans (congrArg nI (by omega))) (by decide) rfl (fun ls hl => ?_)
                refine lv_iload_n hx hb dX8_partsOf_41 rfl (lv_at hl 1 rfl) ?_
                refine lv_iconst (v := 4) hx hb dX8_partsOf_42 (by decide) ?_
                refine lv_ishr hx hb dX8_partsOf_43 ?_
                refine xtop (y := nI (R / 16)) (sh4 (by omega)) ?_
                refine lv_istore_n (lv' := [(3, .int (nI (R / 16))), (2, .int (nI (n + 1))), (1, .int 14)]) hx hb dX8_partsOf_44 rfl hl (by decide) rfl (fun ls hl => ?_)
                refine lv_goto (tgt := 17) hx hb dX8_partsOf_45 (by decide) ?_
                exact ih17  (n + 1) (R / 16) (hstp.1) (hstp.2.1) (hstp.2.2) (by omega) _ _ hP hD hS ls (lv_sub hl [0, 1, 2] rfl)
              · skip
                have kc5 : ¬ (R % 16) ≤ 14 := fun h9 => c5 ((nI_leI (a := (R % 16)) (b := 14) (by omega) (by omega)).mpr h9)
                refine lv_iconst (v := 0) hx hb dX8_partsOf_36 (by decide) ?_
                refine xri hx hb hr hlocks hP hD hS ⟨rfl, ?_, ?_⟩ dX8_partsOf_37
                · exact (congrArg nI (cn_bad (h := 14) hv hN2 hR hn (by decide) hc kc3 (Or.inr kc5))).symm
                · trivial
      exact loop17 7 0 N (by omega) (by simp) (cnt_go hv hpos hN2) (by omega) _ _ hP hD hS ls (lv_sub hl [0, 1, 3] rfl)
    · skip
      refine lv_iconst (v := 0) hx hb dX8_partsOf_11 (by decide) ?_
      refine xri hx hb hr hlocks hP hD hS ⟨rfl, ?_, ?_⟩ dX8_partsOf_12
      · exact (congrArg nI (cnt_no2 c1 c2)).symm
      · trivial

abbrev pX8_delegate (E : xE) (mo : Nat) (ad : Nat → Nat) (th : Int32) (kn : Nat) (rn : Nat) (mn : Nat) (dp : Nat) (am : Nat → Nat → Int32) (al : Nat → Nat → Int64) (pq : Nat → Nat → Nat) (y : Int32) (u : Int32) (z : Int32) (en : Int32) (r : Int32) (w : va_W) : Prop := ∃ (g18 : Nat → Int32) (g19 : Nat → Int32) (g20 : Nat → Int32) (g21 : Nat → Int32), w = [(mo, .inr (9, mOb ad 0 (nI kn) (nI rn) (nI mn) (nI dp))), (ad 18, aI E 24 g18), (ad 19, aI E 144 g19), (ad 20, aI E 144 g20), (ad 21, aZ E 144 g21)] ∧ ((∃ i, i < rn ∧ y = nI i ∧ am 24 i = 0 ∧ ¬ pq i 17 < 3 ∧ ¬ cnt u 15 = 0 ∧ ¬ z < 4 ∧ ¬ 10 ≤ z ∧ pq i 16 < 6 ∧ r = nI (pq i 16 + 1) ∧ g18 = upd (am 18) i (nI (pq i 16 + 1)) ∧ g19 = upd (am 19) (6 * i + pq i 16) u ∧ g20 = upd (am 20) (6 * i + pq i 16) z ∧ g21 = upd (am 21) (6 * i + pq i 16) (vp_nar .boolean en)) ∨ (¬ (∃ i, i < rn ∧ y = nI i ∧ am 24 i = 0 ∧ ¬ pq i 17 < 3 ∧ ¬ cnt u 15 = 0 ∧ ¬ z < 4 ∧ ¬ 10 ≤ z ∧ pq i 16 < 6) ∧ r = -1 ∧ g18 = am 18 ∧ g19 = am 19 ∧ g20 = am 20 ∧ g21 = am 21))
set_option maxHeartbeats 4000000 in
set_option maxRecDepth 100000 in
theorem kX8_delegate (l : Launch) (E : xE) (mo : Nat) (ad : Nat → Nat) (th : Int32) (kn : Nat) (rn : Nat) (mn : Nat) (dp : Nat) (am : Nat → Nat → Int32) (al : Nat → Nat → Int64) (pq : Nat → Nat → Nat) (y : Int32) (u : Int32) (z : Int32) (en : Int32) (hmk : mOk rn am pq) (hrn : rn ≤ 24) : KT l yX8_delegate wsX8_delegate 2 42 0 0 E [(mo, .inr (9, mOb ad th (nI kn) (nI rn) (nI mn) (nI dp))), (ad 18, aI E 24 (am 18)), (ad 19, aI E 144 (am 19)), (ad 20, aI E 144 (am 20)), (ad 21, aZ E 144 (am 21))] [(ad 24, aI E 24 (am 24)), (ad 10, aI E 24 (am 10))] [.ref mo, .int y, .int u, .int z, .int en] (QI E (pX8_delegate E mo ad th kn rn mn dp am al pq y u z en)) := by
  refine KT.start (cc := cX8_delegate) (maxL := 6) (ret := (some .int)) (by decide) rfl (Nat.le_of_ble_eq_true rfl) ?_
  intro p e s m below meth c A H hx hb hr hlocks hml hts hown hin hP hR0 hD hap hev hz hA hS ls hl
  have hl : lv_has ls 6 [(0, .ref mo), (1, .int y), (2, .int u), (3, .int z), (4, .int en)] := hl
  have hiX8 : ∀ w ∈ wsX80, w ∈ wsX8_delegate := fun _ h => List.mem_cons_of_mem _ (List.mem_append_right _ h)
  have hf192 := hts (.fieldLink RX8 192 "SignQuorumModel" "thrown" "I") (by decide +kernel)
  have hf33 := hts (.fieldLink RX8 33 "SignQuorumModel" "kind" "[I") (by decide +kernel)
  have hf57 := hts (.fieldLink RX8 57 "SignQuorumModel" "delegations" "[I") (by decide +kernel)
  have hf60 := hts (.fieldLink RX8 60 "SignQuorumModel" "pattern" "[I") (by decide +kernel)
  have hf63 := hts (.fieldLink RX8 63 "SignQuorumModel" "to" "[I") (by decide +kernel)
  have hf66 := hts (.fieldLink RX8 66 "SignQuorumModel" "last" "[Z") (by decide +kernel)
  have hcu := cnt_le u 15
  refine lv_aload_n hx hb dX8_delegate_0 rfl (lv_at hl 0 rfl) ?_
  refine lv_iconst (v := 0) hx hb dX8_delegate_1 (by decide) ?_
  refine xpt TX8_0 (v := 0) hx hb hts hiX8 hown hev.1 hP hD hS 0 rfl (by decide) hf192 (Nat.le_of_ble_eq_true rfl) dX8_delegate_2 (fun H locs hP hD hS => ?_)
  have hP : va_P E.1 vwCl [(mo, .inr (9, mOb ad 0 (nI kn) (nI rn) (nI mn) (nI dp))), (ad 18, aI E 24 (am 18)), (ad 19, aI E 144 (am 19)), (ad 20, aI E 144 (am 20)), (ad 21, aZ E 144 (am 21))] H := hP
  have hD : va_D A [(mo, .inr (9, mOb ad 0 (nI kn) (nI rn) (nI mn) (nI dp))), (ad 18, aI E 24 (am 18)), (ad 19, aI E 144 (am 19)), (ad 20, aI E 144 (am 20)), (ad 21, aZ E 144 (am 21))] := hD
  refine lv_aload_n hx hb dX8_delegate_5 rfl (lv_at hl 0 rfl) ?_
  refine lv_iload_n hx hb dX8_delegate_6 rfl (lv_at hl 1 rfl) ?_
  have hP := hP.sub (ws' := [] ++ [(mo, .inr (9, mOb ad 0 (nI kn) (nI rn) (nI mn) (nI dp))), (ad 18, aI E 24 (am 18)), (ad 19, aI E 144 (am 19)), (ad 20, aI E 144 (am 20)), (ad 21, aZ E 144 (am 21))]) [0, 1, 2, 3, 4] rfl
  have hD := hD.sub (ws' := [] ++ [(mo, .inr (9, mOb ad 0 (nI kn) (nI rn) (nI mn) (nI dp))), (ad 18, aI E 24 (am 18)), (ad 19, aI E 144 (am 19)), (ad 20, aI E 144 (am 20)), (ad 21, aZ E 144 (am 21))]) [0, 1, 2, 3, 4] (by decide) rfl
  refine xci (va_runV (As := [.int y]) (rest := []) ⟨hx, hb, hml, hown, hts⟩ (kX8_isOpen l E mo ad 0 kn rn mn dp (am 24) y (by first | assumption | omega) H.size) (cwV 1 hts gX8_delegate_X8_isOpen rfl rfl rfl (by decide +kernel) ⟨Nat.le_of_ble_eq_true rfl, Nat.le_of_ble_eq_true rfl⟩) ⟨CP.blind, (va_recv hev.1 hP (ci := 9) (q0 := 0) rfl rfl), (xpre hev hz hA hP hD hS hR0 hap [0, 5] rfl)⟩ rfl rfl hl.1 rfl (lv_room (Nat.le_of_ble_eq_true rfl)) dX8_delegate_7 ⟨Nat.le_of_ble_eq_true rfl, Nat.le_of_ble_eq_true rfl⟩) hP hD hS hA (fun r1 w2 H locs h3 hP hD hS => ?_)
  obtain ⟨rfl, rfl, h3⟩ := h3
  try dsimp only at h3
  have hP : va_P E.1 vwCl [(mo, .inr (9, mOb ad 0 (nI kn) (nI rn) (nI mn) (nI dp))), (ad 18, aI E 24 (am 18)), (ad 19, aI E 144 (am 19)), (ad 20, aI E 144 (am 20)), (ad 21, aZ E 144 (am 21))] H := hP
  have hD : va_D A [(mo, .inr (9, mOb ad 0 (nI kn) (nI rn) (nI mn) (nI dp))), (ad 18, aI E 24 (am 18)), (ad 19, aI E 144 (am 19)), (ad 20, aI E 144 (am 20)), (ad 21, aZ E 144 (am 21))] := hD
  refine lv_if_eq (tgt := 54) hx hb dX8_delegate_10 (by decide) (fun c4 => ?_) (fun c4 => ?_)
  · skip
    have kc4 := b1_0.mp c4
    refine lv_iconst (v := (-1)) hx hb dX8_delegate_54 (by decide) ?_
    refine xri hx hb hr hlocks hP hD hS ⟨(am 18), (am 19), (am 20), (am 21), rfl, ?_⟩ dX8_delegate_55
    exact Or.inr ⟨fun ⟨i9, h1, h2, h3, _⟩ => kc4 ⟨i9, h1, h2, h3⟩, rfl, rfl, rfl, rfl, rfl⟩
  · skip
    have kc4 := b1_n.mp c4
    obtain ⟨i, hi, rfl, hopen⟩ := kc4
    obtain ⟨h10, h12, h15, h18, h22, h24, hb10, hb12, hb15, hb18, hb22, hb24⟩ := hmk i (hi)
    refine lv_aload_n hx hb dX8_delegate_13 rfl (lv_at hl 0 rfl) ?_
    refine xgt TX8_10 (v := .ref (ad 10)) hx hb hts hiX8 hown hev.1 hP 0 rfl (by decide) hf33 rfl dX8_delegate_14 ?_
    refine lv_iload_n hx hb dX8_delegate_17 rfl (lv_at hl 1 rfl) ?_
    refine xiald (k := (i)) hx hb hev.1 (xro hR0 hap hS) 1 1 rfl rfl (by omega) (by decide) dX8_delegate_18 ?_
    refine xtop (y := nI (pq i 17)) (h10) ?_
    refine lv_iconst (v := 3) hx hb dX8_delegate_19 (by decide) ?_
    refine lv_icmp_lt (tgt := 54) hx hb dX8_delegate_20 (by decide) (fun c5 => ?_) (fun c5 => ?_)
    · skip
      have kc5 : (pq i 17) < 3 := (nI_ltI (a := (pq i 17)) (b := 3) (by omega) (by omega)).mp c5
      refine lv_iconst (v := (-1)) hx hb dX8_delegate_54 (by decide) ?_
      refine xri hx hb hr hlocks hP hD hS ⟨(am 18), (am 19), (am 20), (am 21), rfl, ?_⟩ dX8_delegate_55
      exact Or.inr ⟨(fun ⟨i9, h1, h2, h3, h4, _⟩ => by have e9 := (nI_eq (by omega) (by omega)).mp h2; subst e9; omega), rfl, rfl, rfl, rfl, rfl⟩
    · skip
      have kc5 : ¬ (pq i 17) < 3 := fun h9 => c5 ((nI_ltI (a := (pq i 17)) (b := 3) (by omega) (by omega)).mpr h9)
      refine lv_iload_n hx hb dX8_delegate_23 rfl (lv_at hl 2 rfl) ?_
      refine lv_bipush (v := 15) hx hb dX8_delegate_24 (by decide) ?_
      have hP := hP.sub (ws' := [] ++ [(mo, .inr (9, mOb ad 0 (nI kn) (nI rn) (nI mn) (nI dp))), (ad 18, aI E 24 (am 18)), (ad 19, aI E 144 (am 19)), (ad 20, aI E 144 (am 20)), (ad 21, aZ E 144 (am 21))]) [0, 1, 2, 3, 4] rfl
      have hD := hD.sub (ws' := [] ++ [(mo, .inr (9, mOb ad 0 (nI kn) (nI rn) (nI mn) (nI dp))), (ad 18, aI E 24 (am 18)), (ad 19, aI E 144 (am 19)), (ad 20, aI E 144 (am 20)), (ad 21, aZ E 144 (am 21))]) [0, 1, 2, 3, 4] (by decide) rfl
      refine xci (va_runS (As := [.int u, .int 15]) (rest := []) ⟨hx, hb, hml, hown, hts⟩ (kX8_parts15 l E u  H.size) (va_cwS 2 hts gX8_delegate_X8_partsOf rfl rfl rfl (by decide +kernel) ⟨Nat.le_of_ble_eq_true rfl, Nat.le_of_ble_eq_true rfl⟩) ⟨CP.blind, (xpre hev hz hA hP hD hS hR0 hap [] rfl)⟩ rfl rfl hl.1 rfl (lv_room (Nat.le_of_ble_eq_true rfl)) dX8_delegate_26 ⟨Nat.le_of_ble_eq_true rfl, Nat.le_of_ble_eq_true rfl⟩) hP hD hS hA (fun r6 w7 H locs h8 hP hD hS => ?_)
      obtain ⟨rfl, rfl, h8⟩ := h8
      try dsimp only at h8
      have hP : va_P E.1 vwCl [(mo, .inr (9, mOb ad 0 (nI kn) (nI rn) (nI mn) (nI dp))), (ad 18, aI E 24 (am 18)), (ad 19, aI E 144 (am 19)), (ad 20, aI E 144 (am 20)), (ad 21, aZ E 144 (am 21))] H := hP
      have hD : va_D A [(mo, .inr (9, mOb ad 0 (nI kn) (nI rn) (nI mn) (nI dp))), (ad 18, aI E 24 (am 18)), (ad 19, aI E 144 (am 19)), (ad 20, aI E 144 (am 20)), (ad 21, aZ E 144 (am 21))] := hD
      refine lv_if_eq (tgt := 54) hx hb dX8_delegate_29 (by decide) (fun c9 => ?_) (fun c9 => ?_)
      · skip
        have kc9 : (cnt u 15) = 0 := (nI_eq (a := (cnt u 15)) (b := 0) (by omega) (by omega)).mp c9
        refine lv_iconst (v := (-1)) hx hb dX8_delegate_54 (by decide) ?_
        refine xri hx hb hr hlocks hP hD hS ⟨(am 18), (am 19), (am 20), (am 21), rfl, ?_⟩ dX8_delegate_55
        exact Or.inr ⟨fun ⟨i9, _, _, _, _, h4, _⟩ => h4 kc9, rfl, rfl, rfl, rfl, rfl⟩
      · skip
        have kc9 : ¬ (cnt u 15) = 0 := fun h9 => c9 ((nI_eq (a := (cnt u 15)) (b := 0) (by omega) (by omega)).mpr h9)
        refine lv_iload_n hx hb dX8_delegate_32 rfl (lv_at hl 3 rfl) ?_
        refine lv_iconst (v := 4) hx hb dX8_delegate_33 (by decide) ?_
        refine lv_icmp_lt (tgt := 54) hx hb dX8_delegate_34 (by decide) (fun c10 => ?_) (fun c10 => ?_)
        · skip
          refine lv_iconst (v := (-1)) hx hb dX8_delegate_54 (by decide) ?_
          refine xri hx hb hr hlocks hP hD hS ⟨(am 18), (am 19), (am 20), (am 21), rfl, ?_⟩ dX8_delegate_55
          exact Or.inr ⟨fun ⟨i9, _, _, _, _, _, h4, _⟩ => h4 c10, rfl, rfl, rfl, rfl, rfl⟩
        · skip
          refine lv_iload_n hx hb dX8_delegate_37 rfl (lv_at hl 3 rfl) ?_
          refine lv_bipush (v := 10) hx hb dX8_delegate_38 (by decide) ?_
          refine lv_icmp_ge (tgt := 54) hx hb dX8_delegate_40 (by decide) (fun c11 => ?_) (fun c11 => ?_)
          · skip
            refine lv_iconst (v := (-1)) hx hb dX8_delegate_54 (by decide) ?_
            refine xri hx hb hr hlocks hP hD hS ⟨(am 18), (am 19), (am 20), (am 21), rfl, ?_⟩ dX8_delegate_55
            exact Or.inr ⟨fun ⟨i9, _, _, _, _, _, _, h4, _⟩ => h4 c11, rfl, rfl, rfl, rfl, rfl⟩
          · skip
            refine lv_aload_n hx hb dX8_delegate_43 rfl (lv_at hl 0 rfl) ?_
            refine xgt TX8_18 (v := .ref (ad 18)) hx hb hts hiX8 hown hev.1 hP 0 rfl (by decide) hf57 rfl dX8_delegate_44 ?_
            refine lv_iload_n hx hb dX8_delegate_47 rfl (lv_at hl 1 rfl) ?_
            refine xiald (k := (i)) hx hb hev.1 hP 1 1 rfl rfl (by omega) (by decide) dX8_delegate_48 ?_
            refine xtop (y := nI (pq i 16)) (h18) ?_
            refine lv_bipush (v := 6) hx hb dX8_delegate_49 (by decide) ?_
            refine lv_icmp_ne (tgt := 56) hx hb dX8_delegate_51 (by decide) (fun c12 => ?_) (fun c12 => ?_)
            · skip
              have kc12 : ¬ (pq i 16) = 6 := fun h9 => c12 ((nI_eq (a := (pq i 16)) (b := 6) (by omega) (by omega)).mpr h9)
              refine lv_bipush (v := 6) hx hb dX8_delegate_56 (by decide) ?_
              refine lv_iload_n hx hb dX8_delegate_58 rfl (lv_at hl 1 rfl) ?_
              refine lv_imul hx hb dX8_delegate_59 ?_
              refine xtop (y := nI (6 * i)) (pk_mul _ _) ?_
              refine lv_aload_n hx hb dX8_delegate_60 rfl (lv_at hl 0 rfl) ?_
              refine xgt TX8_18 (v := .ref (ad 18)) hx hb hts hiX8 hown hev.1 hP 0 rfl (by decide) hf57 rfl dX8_delegate_61 ?_
              refine lv_iload_n hx hb dX8_delegate_64 rfl (lv_at hl 1 rfl) ?_
              refine xiald (k := (i)) hx hb hev.1 hP 1 1 rfl rfl (by omega) (by decide) dX8_delegate_65 ?_
              refine xtop (y := nI (pq i 16)) (h18) ?_
              refine lv_iadd hx hb dX8_delegate_66 ?_
              refine xtop (y := nI (6 * i + (pq i 16))) ((nI_add (6 * i) (pq i 16)).trans (congrArg nI (by omega))) ?_
              refine lv_istore (lv' := [(5, .int (nI (6 * i + (pq i 16)))), (0, .ref mo), (1, .int (nI i)), (2, .int u), (3, .int z), (4, .int en)]) hx hb dX8_delegate_67 hl (by decide) rfl (fun ls hl => ?_)
              refine lv_aload_n hx hb dX8_delegate_69 rfl (lv_at hl 1 rfl) ?_
              refine xgt TX8_19 (v := .ref (ad 19)) hx hb hts hiX8 hown hev.1 hP 0 rfl (by decide) hf60 rfl dX8_delegate_70 ?_
              refine lv_iload hx hb dX8_delegate_73 (lv_at hl 0 rfl) ?_
              refine lv_iload_n hx hb dX8_delegate_75 rfl (lv_at hl 3 rfl) ?_
              refine xiast (k := 6 * i + (pq i 16)) hx hb hev.1 hP hD hS 2 1 rfl rfl (by omega) (by decide) dX8_delegate_76 (fun H locs hP hD hS => ?_)
              obtain ⟨f13, ef13⟩ : ∃ y9_ : Nat → Int32, y9_ = upd (am 19) (6 * i + (pq i 16)) u := ⟨_, rfl⟩
              rw [← ef13] at hP hD
              have hP : va_P E.1 vwCl [(mo, .inr (9, mOb ad 0 (nI kn) (nI rn) (nI mn) (nI dp))), (ad 18, aI E 24 (am 18)), (ad 19, aI E 144 f13), (ad 20, aI E 144 (am 20)), (ad 21, aZ E 144 (am 21))] H := hP
              have hD : va_D A [(mo, .inr (9, mOb ad 0 (nI kn) (nI rn) (nI mn) (nI dp))), (ad 18, aI E 24 (am 18)), (ad 19, aI E 144 f13), (ad 20, aI E 144 (am 20)), (ad 21, aZ E 144 (am 21))] := hD
              refine lv_aload_n hx hb dX8_delegate_77 rfl (lv_at hl 1 rfl) ?_
              refine xgt TX8_20 (v := .ref (ad 20)) hx hb hts hiX8 hown hev.1 hP 0 rfl (by decide) hf63 rfl dX8_delegate_78 ?_
              refine lv_iload hx hb dX8_delegate_81 (lv_at hl 0 rfl) ?_
              refine lv_iload_n hx hb dX8_delegate_83 rfl (lv_at hl 4 rfl) ?_
              refine xiast (k := 6 * i + (pq i 16)) hx hb hev.1 hP hD hS 3 1 rfl rfl (by omega) (by decide) dX8_delegate_84 (fun H locs hP hD hS => ?_)
              obtain ⟨f14, ef14⟩ : ∃ y9_ : Nat → Int32, y9_ = upd (am 20) (6 * i + (pq i 16)) z := ⟨_, rfl⟩
              rw [← ef14] at hP hD
              have hP : va_P E.1 vwCl [(mo, .inr (9, mOb ad 0 (nI kn) (nI rn) (nI mn) (nI dp))), (ad 18, aI E 24 (am 18)), (ad 19, aI E 144 f13), (ad 20, aI E 144 f14), (ad 21, aZ E 144 (am 21))] H := hP
              have hD : va_D A [(mo, .inr (9, mOb ad 0 (nI kn) (nI rn) (nI mn) (nI dp))), (ad 18, aI E 24 (am 18)), (ad 19, aI E 144 f13), (ad 20, aI E 144 f14), (ad 21, aZ E 144 (am 21))] := hD
              refine lv_aload_n hx hb dX8_delegate_85 rfl (lv_at hl 1 rfl) ?_
              refine xgt TX8_21 (v := .ref (ad 21)) hx hb hts hiX8 hown hev.1 hP 0 rfl (by decide) hf66 rfl dX8_delegate_86 ?_
              refine lv_iload hx hb dX8_delegate_89 (lv_at hl 0 rfl) ?_
              refine lv_iload hx hb dX8_delegate_91 (lv_at hl 5 rfl) ?_
              refine xzast (k := 6 * i + (pq i 16)) hx hb hev.1 hP hD hS 4 3 rfl rfl (by omega) (by decide) dX8_delegate_93 (fun H locs hP hD hS => ?_)
              obtain ⟨f15, ef15⟩ : ∃ y9_ : Nat → Int32, y9_ = upd (am 21) (6 * i + (pq i 16)) (vp_nar .boolean en) := ⟨_, rfl⟩
              rw [← ef15] at hP hD
              have hP : va_P E.1 vwCl [(mo, .inr (9, mOb ad 0 (nI kn) (nI rn) (nI mn) (nI dp))), (ad 18, aI E 24 (am 18)), (ad 19, aI E 144 f13), (ad 20, aI E 144 f14), (ad 21, aZ E 144 f15)] H := hP
              have hD : va_D A [(mo, .inr (9, mOb ad 0 (nI kn) (nI rn) (nI mn) (nI dp))), (ad 18, aI E 24 (am 18)), (ad 19, aI E 144 f13), (ad 20, aI E 144 f14), (ad 21, aZ E 144 f15)] := hD
              refine lv_aload_n hx hb dX8_delegate_94 rfl (lv_at hl 1 rfl) ?_
              refine xgt TX8_18 (v := .ref (ad 18)) hx hb hts hiX8 hown hev.1 hP 0 rfl (by decide) hf57 rfl dX8_delegate_95 ?_
              refine lv_iload_n hx hb dX8_delegate_98 rfl (lv_at hl 2 rfl) ?_
              refine lv_dup2_11 hx hb dX8_delegate_99 rfl rfl ?_
              refine xiald (k := (i)) hx hb hev.1 hP 1 1 rfl rfl (by omega) (by decide) dX8_delegate_100 ?_
              refine xtop (y := nI (pq i 16)) (h18) ?_
              refine lv_iconst (v := 1) hx hb dX8_delegate_101 (by decide) ?_
              refine lv_iadd hx hb dX8_delegate_102 ?_
              refine xtop (y := nI (pq i 16 + 1)) ((nI_add (pq i 16) 1).trans (congrArg nI (by omega))) ?_
              refine xiast (k := i) hx hb hev.1 hP hD hS 1 1 rfl rfl (by omega) (by decide) dX8_delegate_103 (fun H locs hP hD hS => ?_)
              obtain ⟨f16, ef16⟩ : ∃ y9_ : Nat → Int32, y9_ = upd (am 18) i (nI (pq i 16 + 1)) := ⟨_, rfl⟩
              rw [← ef16] at hP hD
              have hP : va_P E.1 vwCl [(mo, .inr (9, mOb ad 0 (nI kn) (nI rn) (nI mn) (nI dp))), (ad 18, aI E 24 f16), (ad 19, aI E 144 f13), (ad 20, aI E 144 f14), (ad 21, aZ E 144 f15)] H := hP
              have hD : va_D A [(mo, .inr (9, mOb ad 0 (nI kn) (nI rn) (nI mn) (nI dp))), (ad 18, aI E 24 f16), (ad 19, aI E 144 f13), (ad 20, aI E 144 f14), (ad 21, aZ E 144 f15)] := hD
              refine lv_aload_n hx hb dX8_delegate_104 rfl (lv_at hl 1 rfl) ?_
              refine xgt TX8_18 (v := .ref (ad 18)) hx hb hts hiX8 hown hev.1 hP 0 rfl (by decide) hf57 rfl dX8_delegate_105 ?_
              refine lv_iload_n hx hb dX8_delegate_108 rfl (lv_at hl 2 rfl) ?_
              refine xiald (k := (i)) hx hb hev.1 hP 1 1 rfl rfl (by omega) (by decide) dX8_delegate_109 ?_
              refine xtop (y := nI (pq i 16 + 1)) (by rw [ef16, upd_self]) ?_
              refine xri hx hb hr hlocks hP hD hS ⟨f16, f13, f14, f15, rfl, ?_⟩ dX8_delegate_110
              exact Or.inl ⟨i, hi, rfl, hopen, kc5, kc9, c10, c11, by omega, rfl, by assumption, by assumption, by assumption, by assumption⟩
            · skip
              have kc12 : (pq i 16) = 6 := (nI_eq (a := (pq i 16)) (b := 6) (by omega) (by omega)).mp c12
              refine lv_iconst (v := (-1)) hx hb dX8_delegate_54 (by decide) ?_
              refine xri hx hb hr hlocks hP hD hS ⟨(am 18), (am 19), (am 20), (am 21), rfl, ?_⟩ dX8_delegate_55
              exact Or.inr ⟨(fun ⟨i9, h1, h2, h3, _, _, _, _, h4⟩ => by have e9 := (nI_eq (by omega) (by omega)).mp h2; subst e9; omega), rfl, rfl, rfl, rfl, rfl⟩

abbrev pX8_lists (E : xE) (mo : Nat) (ad : Nat → Nat) (th : Int32) (kn : Nat) (rn : Nat) (mn : Nat) (dp : Nat) (am : Nat → Nat → Int32) (al : Nat → Nat → Int64) (pq : Nat → Nat → Nat) (y : Int32) (u : Int32) (r : Int32) (w : va_W) : Prop := ∃ (g22 : Nat → Int32) (g23 : Nat → Int32), w = [(mo, .inr (9, mOb ad 0 (nI kn) (nI rn) (nI mn) (nI dp))), (ad 22, aI E 24 g22), (ad 23, aI E 144 g23)] ∧ ((∃ i, i < rn ∧ y = nI i ∧ am 24 i = 0 ∧ ¬ pq i 17 < 3 ∧ ¬ cnt u 14 = 0 ∧ pq i 13 < 6 ∧ r = nI (pq i 13 + 1) ∧ g22 = upd (am 22) i (nI (pq i 13 + 1)) ∧ g23 = upd (am 23) (6 * i + pq i 13) u) ∨ (¬ (∃ i, i < rn ∧ y = nI i ∧ am 24 i = 0 ∧ ¬ pq i 17 < 3 ∧ ¬ cnt u 14 = 0 ∧ pq i 13 < 6) ∧ r = -1 ∧ g22 = am 22 ∧ g23 = am 23))
set_option maxHeartbeats 4000000 in
set_option maxRecDepth 100000 in
theorem kX8_lists (l : Launch) (E : xE) (mo : Nat) (ad : Nat → Nat) (th : Int32) (kn : Nat) (rn : Nat) (mn : Nat) (dp : Nat) (am : Nat → Nat → Int32) (al : Nat → Nat → Int64) (pq : Nat → Nat → Nat) (y : Int32) (u : Int32) (hmk : mOk rn am pq) (hrn : rn ≤ 24) : KT l yX8_lists wsX8_lists 2 42 0 0 E [(mo, .inr (9, mOb ad th (nI kn) (nI rn) (nI mn) (nI dp))), (ad 22, aI E 24 (am 22)), (ad 23, aI E 144 (am 23))] [(ad 24, aI E 24 (am 24)), (ad 10, aI E 24 (am 10))] [.ref mo, .int y, .int u] (QI E (pX8_lists E mo ad th kn rn mn dp am al pq y u)) := by
  refine KT.start (cc := cX8_lists) (maxL := 3) (ret := (some .int)) (by decide) rfl (Nat.le_of_ble_eq_true rfl) ?_
  intro p e s m below meth c A H hx hb hr hlocks hml hts hown hin hP hR0 hD hap hev hz hA hS ls hl
  have hl : lv_has ls 3 [(0, .ref mo), (1, .int y), (2, .int u)] := hl
  have hiX8 : ∀ w ∈ wsX80, w ∈ wsX8_lists := fun _ h => List.mem_cons_of_mem _ (List.mem_append_right _ h)
  have hf192 := hts (.fieldLink RX8 192 "SignQuorumModel" "thrown" "I") (by decide +kernel)
  have hf33 := hts (.fieldLink RX8 33 "SignQuorumModel" "kind" "[I") (by decide +kernel)
  have hf69 := hts (.fieldLink RX8 69 "SignQuorumModel" "paths" "[I") (by decide +kernel)
  have hf72 := hts (.fieldLink RX8 72 "SignQuorumModel" "path" "[I") (by decide +kernel)
  have hcu := cnt_le u 14
  refine lv_aload_n hx hb dX8_lists_0 rfl (lv_at hl 0 rfl) ?_
  refine lv_iconst (v := 0) hx hb dX8_lists_1 (by decide) ?_
  refine xpt TX8_0 (v := 0) hx hb hts hiX8 hown hev.1 hP hD hS 0 rfl (by decide) hf192 (Nat.le_of_ble_eq_true rfl) dX8_lists_2 (fun H locs hP hD hS => ?_)
  have hP : va_P E.1 vwCl [(mo, .inr (9, mOb ad 0 (nI kn) (nI rn) (nI mn) (nI dp))), (ad 22, aI E 24 (am 22)), (ad 23, aI E 144 (am 23))] H := hP
  have hD : va_D A [(mo, .inr (9, mOb ad 0 (nI kn) (nI rn) (nI mn) (nI dp))), (ad 22, aI E 24 (am 22)), (ad 23, aI E 144 (am 23))] := hD
  refine lv_aload_n hx hb dX8_lists_5 rfl (lv_at hl 0 rfl) ?_
  refine lv_iload_n hx hb dX8_lists_6 rfl (lv_at hl 1 rfl) ?_
  have hP := hP.sub (ws' := [] ++ [(mo, .inr (9, mOb ad 0 (nI kn) (nI rn) (nI mn) (nI dp))), (ad 22, aI E 24 (am 22)), (ad 23, aI E 144 (am 23))]) [0, 1, 2] rfl
  have hD := hD.sub (ws' := [] ++ [(mo, .inr (9, mOb ad 0 (nI kn) (nI rn) (nI mn) (nI dp))), (ad 22, aI E 24 (am 22)), (ad 23, aI E 144 (am 23))]) [0, 1, 2] (by decide) rfl
  refine xci (va_runV (As := [.int y]) (rest := []) ⟨hx, hb, hml, hown, hts⟩ (kX8_isOpen l E mo ad 0 kn rn mn dp (am 24) y (by first | assumption | omega) H.size) (cwV 1 hts gX8_lists_X8_isOpen rfl rfl rfl (by decide +kernel) ⟨Nat.le_of_ble_eq_true rfl, Nat.le_of_ble_eq_true rfl⟩) ⟨CP.blind, (va_recv hev.1 hP (ci := 9) (q0 := 0) rfl rfl), (xpre hev hz hA hP hD hS hR0 hap [0, 3] rfl)⟩ rfl rfl hl.1 rfl (lv_room (Nat.le_of_ble_eq_true rfl)) dX8_lists_7 ⟨Nat.le_of_ble_eq_true rfl, Nat.le_of_ble_eq_true rfl⟩) hP hD hS hA (fun r1 w2 H locs h3 hP hD hS => ?_)
  obtain ⟨rfl, rfl, h3⟩ := h3
  try dsimp only at h3
  have hP : va_P E.1 vwCl [(mo, .inr (9, mOb ad 0 (nI kn) (nI rn) (nI mn) (nI dp))), (ad 22, aI E 24 (am 22)), (ad 23, aI E 144 (am 23))] H := hP
  have hD : va_D A [(mo, .inr (9, mOb ad 0 (nI kn) (nI rn) (nI mn) (nI dp))), (ad 22, aI E 24 (am 22)), (ad 23, aI E 144 (am 23))] := hD
  refine lv_if_eq (tgt := 43) hx hb dX8_lists_10 (by decide) (fun c4 => ?_) (fun c4 => ?_)
  · skip
    have kc4 := b1_0.mp c4
    refine lv_iconst (v := (-1)) hx hb dX8_lists_43 (by decide) ?_
    refine xri hx hb hr hlocks hP hD hS ⟨(am 22), (am 23), rfl, ?_⟩ dX8_lists_44
    exact Or.inr ⟨fun ⟨i9, h1, h2, h3, _⟩ => kc4 ⟨i9, h1, h2, h3⟩, rfl, rfl, rfl⟩
  · skip
    have kc4 := b1_n.mp c4
    obtain ⟨i, hi, rfl, hopen⟩ := kc4
    obtain ⟨h10, h12, h15, h18, h22, h24, hb10, hb12, hb15, hb18, hb22, hb24⟩ := hmk i (hi)
    refine lv_aload_n hx hb dX8_lists_13 rfl (lv_at hl 0 rfl) ?_
    refine xgt TX8_10 (v := .ref (ad 10)) hx hb hts hiX8 hown hev.1 hP 0 rfl (by decide) hf33 rfl dX8_lists_14 ?_
    refine lv_iload_n hx hb dX8_lists_17 rfl (lv_at hl 1 rfl) ?_
    refine xiald (k := (i)) hx hb hev.1 (xro hR0 hap hS) 1 1 rfl rfl (by omega) (by decide) dX8_lists_18 ?_
    refine xtop (y := nI (pq i 17)) (h10) ?_
    refine lv_iconst (v := 3) hx hb dX8_lists_19 (by decide) ?_
    refine lv_icmp_lt (tgt := 43) hx hb dX8_lists_20 (by decide) (fun c5 => ?_) (fun c5 => ?_)
    · skip
      have kc5 : (pq i 17) < 3 := (nI_ltI (a := (pq i 17)) (b := 3) (by omega) (by omega)).mp c5
      refine lv_iconst (v := (-1)) hx hb dX8_lists_43 (by decide) ?_
      refine xri hx hb hr hlocks hP hD hS ⟨(am 22), (am 23), rfl, ?_⟩ dX8_lists_44
      exact Or.inr ⟨(fun ⟨i9, h1, h2, h3, h4, _⟩ => by have e9 := (nI_eq (by omega) (by omega)).mp h2; subst e9; omega), rfl, rfl, rfl⟩
    · skip
      have kc5 : ¬ (pq i 17) < 3 := fun h9 => c5 ((nI_ltI (a := (pq i 17)) (b := 3) (by omega) (by omega)).mpr h9)
      refine lv_iload_n hx hb dX8_lists_23 rfl (lv_at hl 2 rfl) ?_
      refine lv_bipush (v := 14) hx hb dX8_lists_24 (by decide) ?_
      have hP := hP.sub (ws' := [] ++ [(mo, .inr (9, mOb ad 0 (nI kn) (nI rn) (nI mn) (nI dp))), (ad 22, aI E 24 (am 22)), (ad 23, aI E 144 (am 23))]) [0, 1, 2] rfl
      have hD := hD.sub (ws' := [] ++ [(mo, .inr (9, mOb ad 0 (nI kn) (nI rn) (nI mn) (nI dp))), (ad 22, aI E 24 (am 22)), (ad 23, aI E 144 (am 23))]) [0, 1, 2] (by decide) rfl
      refine xci (va_runS (As := [.int u, .int 14]) (rest := []) ⟨hx, hb, hml, hown, hts⟩ (kX8_parts14 l E u  H.size) (va_cwS 2 hts gX8_lists_X8_partsOf rfl rfl rfl (by decide +kernel) ⟨Nat.le_of_ble_eq_true rfl, Nat.le_of_ble_eq_true rfl⟩) ⟨CP.blind, (xpre hev hz hA hP hD hS hR0 hap [] rfl)⟩ rfl rfl hl.1 rfl (lv_room (Nat.le_of_ble_eq_true rfl)) dX8_lists_26 ⟨Nat.le_of_ble_eq_true rfl, Nat.le_of_ble_eq_true rfl⟩) hP hD hS hA (fun r6 w7 H locs h8 hP hD hS => ?_)
      obtain ⟨rfl, rfl, h8⟩ := h8
      try dsimp only at h8
      have hP : va_P E.1 vwCl [(mo, .inr (9, mOb ad 0 (nI kn) (nI rn) (nI mn) (nI dp))), (ad 22, aI E 24 (am 22)), (ad 23, aI E 144 (am 23))] H := hP
      have hD : va_D A [(mo, .inr (9, mOb ad 0 (nI kn) (nI rn) (nI mn) (nI dp))), (ad 22, aI E 24 (am 22)), (ad 23, aI E 144 (am 23))] := hD
      refine lv_if_eq (tgt := 43) hx hb dX8_lists_29 (by decide) (fun c9 => ?_) (fun c9 => ?_)
      · skip
        have kc9 : (cnt u 14) = 0 := (nI_eq (a := (cnt u 14)) (b := 0) (by omega) (by omega)).mp c9
        refine lv_iconst (v := (-1)) hx hb dX8_lists_43 (by decide) ?_
        refine xri hx hb hr hlocks hP hD hS ⟨(am 22), (am 23), rfl, ?_⟩ dX8_lists_44
        exact Or.inr ⟨fun ⟨i9, _, _, _, _, h4, _⟩ => h4 kc9, rfl, rfl, rfl⟩
      · skip
        have kc9 : ¬ (cnt u 14) = 0 := fun h9 => c9 ((nI_eq (a := (cnt u 14)) (b := 0) (by omega) (by omega)).mpr h9)
        refine lv_aload_n hx hb dX8_lists_32 rfl (lv_at hl 0 rfl) ?_
        refine xgt TX8_22 (v := .ref (ad 22)) hx hb hts hiX8 hown hev.1 hP 0 rfl (by decide) hf69 rfl dX8_lists_33 ?_
        refine lv_iload_n hx hb dX8_lists_36 rfl (lv_at hl 1 rfl) ?_
        refine xiald (k := (i)) hx hb hev.1 hP 1 1 rfl rfl (by omega) (by decide) dX8_lists_37 ?_
        refine xtop (y := nI (pq i 13)) (h22) ?_
        refine lv_bipush (v := 6) hx hb dX8_lists_38 (by decide) ?_
        refine lv_icmp_ne (tgt := 45) hx hb dX8_lists_40 (by decide) (fun c10 => ?_) (fun c10 => ?_)
        · skip
          have kc10 : ¬ (pq i 13) = 6 := fun h9 => c10 ((nI_eq (a := (pq i 13)) (b := 6) (by omega) (by omega)).mpr h9)
          refine lv_aload_n hx hb dX8_lists_45 rfl (lv_at hl 0 rfl) ?_
          refine xgt TX8_23 (v := .ref (ad 23)) hx hb hts hiX8 hown hev.1 hP 0 rfl (by decide) hf72 rfl dX8_lists_46 ?_
          refine lv_bipush (v := 6) hx hb dX8_lists_49 (by decide) ?_
          refine lv_iload_n hx hb dX8_lists_51 rfl (lv_at hl 1 rfl) ?_
          refine lv_imul hx hb dX8_lists_52 ?_
          refine xtop (y := nI (6 * i)) (pk_mul _ _) ?_
          refine lv_aload_n hx hb dX8_lists_53 rfl (lv_at hl 0 rfl) ?_
          refine xgt TX8_22 (v := .ref (ad 22)) hx hb hts hiX8 hown hev.1 hP 0 rfl (by decide) hf69 rfl dX8_lists_54 ?_
          refine lv_iload_n hx hb dX8_lists_57 rfl (lv_at hl 1 rfl) ?_
          refine xiald (k := (i)) hx hb hev.1 hP 1 1 rfl rfl (by omega) (by decide) dX8_lists_58 ?_
          refine xtop (y := nI (pq i 13)) (h22) ?_
          refine lv_iadd hx hb dX8_lists_59 ?_
          refine xtop (y := nI (6 * i + (pq i 13))) ((nI_add (6 * i) (pq i 13)).trans (congrArg nI (by omega))) ?_
          refine lv_iload_n hx hb dX8_lists_60 rfl (lv_at hl 2 rfl) ?_
          refine xiast (k := 6 * i + (pq i 13)) hx hb hev.1 hP hD hS 2 1 rfl rfl (by omega) (by decide) dX8_lists_61 (fun H locs hP hD hS => ?_)
          obtain ⟨f11, ef11⟩ : ∃ y9_ : Nat → Int32, y9_ = upd (am 23) (6 * i + (pq i 13)) u := ⟨_, rfl⟩
          rw [← ef11] at hP hD
          have hP : va_P E.1 vwCl [(mo, .inr (9, mOb ad 0 (nI kn) (nI rn) (nI mn) (nI dp))), (ad 22, aI E 24 (am 22)), (ad 23, aI E 144 f11)] H := hP
          have hD : va_D A [(mo, .inr (9, mOb ad 0 (nI kn) (nI rn) (nI mn) (nI dp))), (ad 22, aI E 24 (am 22)), (ad 23, aI E 144 f11)] := hD
          refine lv_aload_n hx hb dX8_lists_62 rfl (lv_at hl 0 rfl) ?_
          refine xgt TX8_22 (v := .ref (ad 22)) hx hb hts hiX8 hown hev.1 hP 0 rfl (by decide) hf69 rfl dX8_lists_63 ?_
          refine lv_iload_n hx hb dX8_lists_66 rfl (lv_at hl 1 rfl) ?_
          refine lv_dup2_11 hx hb dX8_lists_67 rfl rfl ?_
          refine xiald (k := (i)) hx hb hev.1 hP 1 1 rfl rfl (by omega) (by decide) dX8_lists_68 ?_
          refine xtop (y := nI (pq i 13)) (h22) ?_
          refine lv_iconst (v := 1) hx hb dX8_lists_69 (by decide) ?_
          refine lv_iadd hx hb dX8_lists_70 ?_
          refine xtop (y := nI (pq i 13 + 1)) ((nI_add (pq i 13) 1).trans (congrArg nI (by omega))) ?_
          refine xiast (k := i) hx hb hev.1 hP hD hS 1 1 rfl rfl (by omega) (by decide) dX8_lists_71 (fun H locs hP hD hS => ?_)
          obtain ⟨f12, ef12⟩ : ∃ y9_ : Nat → Int32, y9_ = upd (am 22) i (nI (pq i 13 + 1)) := ⟨_, rfl⟩
          rw [← ef12] at hP hD
          have hP : va_P E.1 vwCl [(mo, .inr (9, mOb ad 0 (nI kn) (nI rn) (nI mn) (nI dp))), (ad 22, aI E 24 f12), (ad 23, aI E 144 f11)] H := hP
          have hD : va_D A [(mo, .inr (9, mOb ad 0 (nI kn) (nI rn) (nI mn) (nI dp))), (ad 22, aI E 24 f12), (ad 23, aI E 144 f11)] := hD
          refine lv_aload_n hx hb dX8_lists_72 rfl (lv_at hl 0 rfl) ?_
          refine xgt TX8_22 (v := .ref (ad 22)) hx hb hts hiX8 hown hev.1 hP 0 rfl (by decide) hf69 rfl dX8_lists_73 ?_
          refine lv_iload_n hx hb dX8_lists_76 rfl (lv_at hl 1 rfl) ?_
          refine xiald (k := (i)) hx hb hev.1 hP 1 1 rfl rfl (by omega) (by decide) dX8_lists_77 ?_
          refine xtop (y := nI (pq i 13 + 1)) (by rw [ef12, upd_self]) ?_
          refine xri hx hb hr hlocks hP hD hS ⟨f12, f11, rfl, ?_⟩ dX8_lists_78
          exact Or.inl ⟨i, hi, rfl, hopen, kc5, kc9, by omega, rfl, by assumption, by assumption⟩
        · skip
          have kc10 : (pq i 13) = 6 := (nI_eq (a := (pq i 13)) (b := 6) (by omega) (by omega)).mp c10
          refine lv_iconst (v := (-1)) hx hb dX8_lists_43 (by decide) ?_
          refine xri hx hb hr hlocks hP hD hS ⟨(am 22), (am 23), rfl, ?_⟩ dX8_lists_44
          exact Or.inr ⟨(fun ⟨i9, h1, h2, h3, _, _, h4⟩ => by have e9 := (nI_eq (by omega) (by omega)).mp h2; subst e9; omega), rfl, rfl, rfl⟩
