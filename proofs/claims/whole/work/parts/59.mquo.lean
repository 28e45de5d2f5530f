abbrev pX8_rightKeys (E : xE) (mo : Nat) (ad : Nat → Nat) (th : Int32) (kn : Nat) (rn : Nat) (mn : Nat) (dp : Nat) (a29 : Nat → Int32) (a30 : Nat → Int32) (a34 : Nat → Int32) (a35 : Nat → Int32) (a36 : Nat → Int32) (a3 : Nat → Int64) (a14 : Nat → Int64) (a32 : Nat → Int32) (a33 : Nat → Int32) (a8 : Nat → Int32) (a9 : Nat → Int32) (a10 : Nat → Int32) (a11 : Nat → Int32) (a12 : Nat → Int32) (a13 : Nat → Int32) (a15 : Nat → Int32) (a16 : Nat → Int32) (a17 : Nat → Int32) (a18 : Nat → Int32) (a19 : Nat → Int32) (a20 : Nat → Int32) (a21 : Nat → Int32) (a22 : Nat → Int32) (a23 : Nat → Int32) (a24 : Nat → Int32) (a25 : Nat → Int32) (a26 : Nat → Int64) (q : Nat) (rl : Nat) (oc : Nat) (tn : Nat) (dn : Nat) (pn : Nat) (sn : Nat) (r : Int32) (w : va_W) : Prop := ∃ (m2 : Nat) (g29 : Nat → Int32) (g30 : Nat → Int32) (g34 : Nat → Int32) (g35 : Nat → Int32) (g36 : Nat → Int32), w = [(mo, .inr (9, mOb ad th (nI kn) (nI rn) (nI m2) (nI dp))), (ad 29, aI E 256 g29), (ad 30, aI E 32 g30), (ad 34, aI E 16 g34), (ad 35, aI E 8 g35), (ad 36, aI E 8 g36)] ∧ r = mk (hpk sn a25 a26 q (fun k => uB8 (a3 k) ++ mrowB rl (a11 q) (a14 q) oc a13 a8 a9 tn a16 a17 dn a19 a20 a21 pn a23 q)) kn ∧ (True)
set_option maxHeartbeats 4000000 in
set_option maxRecDepth 100000 in
theorem kX8_rightKeys (l : Launch) (E : xE) (mo : Nat) (ad : Nat → Nat) (th : Int32) (kn : Nat) (rn : Nat) (mn : Nat) (dp : Nat) (a29 : Nat → Int32) (a30 : Nat → Int32) (a34 : Nat → Int32) (a35 : Nat → Int32) (a36 : Nat → Int32) (a3 : Nat → Int64) (a14 : Nat → Int64) (a32 : Nat → Int32) (a33 : Nat → Int32) (a8 : Nat → Int32) (a9 : Nat → Int32) (a10 : Nat → Int32) (a11 : Nat → Int32) (a12 : Nat → Int32) (a13 : Nat → Int32) (a15 : Nat → Int32) (a16 : Nat → Int32) (a17 : Nat → Int32) (a18 : Nat → Int32) (a19 : Nat → Int32) (a20 : Nat → Int32) (a21 : Nat → Int32) (a22 : Nat → Int32) (a23 : Nat → Int32) (a24 : Nat → Int32) (a25 : Nat → Int32) (a26 : Nat → Int64) (q : Nat) (rl : Nat) (oc : Nat) (tn : Nat) (dn : Nat) (pn : Nat) (sn : Nat) (hfs : ∀ k, k < 8 → a32 k = sFS k) (hst : ∀ k, k < 64 → a33 k = sRC k) (hr24 : q < 24) (ha10 : a10 q = nI rl) (ha12 : a12 q = nI oc) (ha15 : a15 q = nI tn) (ha18 : a18 q = nI dn) (ha22 : a22 q = nI pn) (hrl : rl < 10) (hoc : oc ≤ 16) (htn : tn ≤ 7) (hdn : dn ≤ 6) (hpn : pn ≤ 6) (ha24 : a24 q = nI sn) (hsn : sn ≤ 12) (hkn : kn ≤ 20) : KT l yX8_rightKeys wsX8_rightKeys 6 143 0 0 E [(mo, .inr (9, mOb ad th (nI kn) (nI rn) (nI mn) (nI dp))), (ad 29, aI E 256 a29), (ad 30, aI E 32 a30), (ad 34, aI E 16 a34), (ad 35, aI E 8 a35), (ad 36, aI E 8 a36)] [(ad 3, aJ E 20 a3), (ad 14, aJ E 24 a14), (ad 32, aI E 8 a32), (ad 33, aI E 64 a33), (ad 8, aI E 240 a8), (ad 9, aI E 240 a9), (ad 10, aI E 24 a10), (ad 11, aI E 24 a11), (ad 12, aI E 24 a12), (ad 13, aI E 384 a13), (ad 15, aI E 24 a15), (ad 16, aI E 168 a16), (ad 17, aI E 168 a17), (ad 18, aI E 24 a18), (ad 19, aI E 144 a19), (ad 20, aI E 144 a20), (ad 21, aZ E 144 a21), (ad 22, aI E 24 a22), (ad 23, aI E 144 a23), (ad 24, aI E 24 a24), (ad 25, aI E 288 a25), (ad 26, aJ E 288 a26)] [.ref mo, .int (nI q)] (QI E (pX8_rightKeys E mo ad th kn rn mn dp a29 a30 a34 a35 a36 a3 a14 a32 a33 a8 a9 a10 a11 a12 a13 a15 a16 a17 a18 a19 a20 a21 a22 a23 a24 a25 a26 q rl oc tn dn pn sn)) := by
  refine KT.start (cc := cX8_rightKeys) (maxL := 6) (ret := (some .int)) (by decide) rfl (Nat.le_of_ble_eq_true rfl) ?_
  intro p e s m below meth c A H hx hb hr hlocks hml hts hown hin hP hR0 hD hap hev hz hA hS ls hl
  have hl : lv_has ls 6 [(0, .ref mo), (1, .int (nI q))] := hl
  have hiX8 : ∀ w ∈ wsX80, w ∈ wsX8_rightKeys := fun _ h => List.mem_cons_of_mem _ (List.mem_append_right _ h)
  have hf196 := hts (.fieldLink RX8 196 "SignQuorumModel" "keys" "I") (by decide +kernel)
  have hf75 := hts (.fieldLink RX8 75 "SignQuorumModel" "signatures" "[I") (by decide +kernel)
  have hf78 := hts (.fieldLink RX8 78 "SignQuorumModel" "signer" "[I") (by decide +kernel)
  have hf81 := hts (.fieldLink RX8 81 "SignQuorumModel" "signature" "[J") (by decide +kernel)
  refine lv_iconst (v := 0) hx hb dX8_rightKeys_0 (by decide) ?_
  refine lv_istore_n (lv' := [(2, .int 0), (0, .ref mo), (1, .int (nI q))]) hx hb dX8_rightKeys_1 rfl hl (by decide) rfl (fun ls hl => ?_)
  refine lv_iconst (v := 0) hx hb dX8_rightKeys_2 (by decide) ?_
  refine lv_istore_n (lv' := [(3, .int 0), (2, .int 0), (0, .ref mo), (1, .int (nI q))]) hx hb dX8_rightKeys_3 rfl hl (by decide) rfl (fun ls hl => ?_)
  have loop4 : ∀ (fz4 : Nat) (k : Nat) (bm : Nat) (b29 : Nat → Int32) (b30 : Nat → Int32) (b34 : Nat → Int32) (b35 : Nat → Int32) (b36 : Nat → Int32), (k ≤ kn) → (kn - k < fz4) → ∀ (H : Heap) (locs : List Loc), va_P E.1 vwCl [(mo, .inr (9, mOb ad th (nI kn) (nI rn) (nI bm) (nI dp))), (ad 29, aI E 256 b29), (ad 30, aI E 32 b30), (ad 34, aI E 16 b34), (ad 35, aI E 8 b35), (ad 36, aI E 8 b36)] H → va_D A [(mo, .inr (9, mOb ad th (nI kn) (nI rn) (nI bm) (nI dp))), (ad 29, aI E 256 b29), (ad 30, aI E 32 b30), (ad 34, aI E 16 b34), (ad 35, aI E 8 b35), (ad 36, aI E 8 b36)] → va_S A s.heap H locs → ∀ ls : Array Slot, lv_has ls 6 [(3, .int (nI k)), (2, .int (mk (hpk sn a25 a26 q (fun k => uB8 (a3 k) ++ mrowB rl (a11 q) (a14 q) oc a13 a8 a9 tn a16 a17 dn a19 a20 a21 pn a23 q)) k)), (0, .ref mo), (1, .int (nI q))] → W p l e ({ frames := 6, cells := 0, slots := 0, locals := 143 } : Room) s m ([.ref mo, .int (nI q)] : List Value).toArray below meth c H locs 0 0 (MQ below (QI E (pX8_rightKeys E mo ad th kn rn mn dp a29 a30 a34 a35 a36 a3 a14 a32 a33 a8 a9 a10 a11 a12 a13 a15 a16 a17 a18 a19 a20 a21 a22 a23 a24 a25 a26 q rl oc tn dn pn sn) A) ([.ref mo, .int (nI q)] : List Value).toArray s 0 0 A) (F0 m 4 ls []) := by
    intro fz4
    induction fz4 with
    | zero =>
      intro k bm b29 b30 b34 b35 b36 hk hfuel
      exact absurd hfuel (by omega)
    | succ fz4 ih4 =>
      intro k bm b29 b30 b34 b35 b36 hk hfuel H locs hP hD hS ls hl
      refine lv_iload_n hx hb dX8_rightKeys_4 rfl (lv_at hl 0 rfl) ?_
      refine lv_aload_n hx hb dX8_rightKeys_5 rfl (lv_at hl 2 rfl) ?_
      refine xgt TX8_1 (v := .int (nI kn)) hx hb hts hiX8 hown hev.1 hP 0 rfl (by decide) hf196 rfl dX8_rightKeys_6 ?_
      refine lv_icmp_ge (tgt := 104) hx hb dX8_rightKeys_9 (by decide) (fun c1 => ?_) (fun c1 => ?_)
      · skip
        have kc1 : kn ≤ k := (nI_leI (a := kn) (b := k) (by omega) (by omega)).mp c1
        refine lv_iload_n hx hb dX8_rightKeys_104 rfl (lv_at hl 1 rfl) ?_
        refine xri hx hb hr hlocks hP hD hS ⟨bm, b29, b30, b34, b35, b36, rfl, ?_, ?_⟩ dX8_rightKeys_105
        · obtain rfl : k = kn := by omega
          rfl
        · trivial
      · skip
        have kc1 : ¬ kn ≤ k := fun h9 => c1 ((nI_leI (a := kn) (b := k) (by omega) (by omega)).mpr h9)
        refine lv_iconst (v := 0) hx hb dX8_rightKeys_12 (by decide) ?_
        refine xtop (y := b1 (hpk 0 a25 a26 q (fun k => uB8 (a3 k) ++ mrowB rl (a11 q) (a14 q) oc a13 a8 a9 tn a16 a17 dn a19 a20 a21 pn a23 q) k)) ((b1_f hpk_0).symm) ?_
        refine lv_istore (lv' := [(4, .int (b1 (hpk 0 a25 a26 q (fun k => uB8 (a3 k) ++ mrowB rl (a11 q) (a14 q) oc a13 a8 a9 tn a16 a17 dn a19 a20 a21 pn a23 q) k))), (3, .int (nI k)), (2, .int (mk (hpk sn a25 a26 q (fun k => uB8 (a3 k) ++ mrowB rl (a11 q) (a14 q) oc a13 a8 a9 tn a16 a17 dn a19 a20 a21 pn a23 q)) k)), (0, .ref mo), (1, .int (nI q))]) hx hb dX8_rightKeys_13 hl (by decide) rfl (fun ls hl => ?_)
        refine lv_bipush (v := 12) hx hb dX8_rightKeys_15 (by decide) ?_
        refine lv_iload_n hx hb dX8_rightKeys_17 rfl (lv_at hl 4 rfl) ?_
        refine lv_imul hx hb dX8_rightKeys_18 ?_
        refine xtop (y := nI (12 * q)) (pk_mul _ _) ?_
        refine lv_istore (lv' := [(5, .int (nI (12 * q))), (4, .int (b1 (hpk 0 a25 a26 q (fun k => uB8 (a3 k) ++ mrowB rl (a11 q) (a14 q) oc a13 a8 a9 tn a16 a17 dn a19 a20 a21 pn a23 q) k))), (3, .int (nI k)), (2, .int (mk (hpk sn a25 a26 q (fun k => uB8 (a3 k) ++ mrowB rl (a11 q) (a14 q) oc a13 a8 a9 tn a16 a17 dn a19 a20 a21 pn a23 q)) k)), (0, .ref mo), (1, .int (nI q))]) hx hb dX8_rightKeys_19 hl (by decide) rfl (fun ls hl => ?_)
        have loop21 : ∀ (fz21 : Nat) (i : Nat) (cm : Nat) (c29 : Nat → Int32) (c30 : Nat → Int32) (c34 : Nat → Int32) (c35 : Nat → Int32) (c36 : Nat → Int32), (i ≤ sn) → (sn - i < fz21) → ∀ (H : Heap) (locs : List Loc), va_P E.1 vwCl [(mo, .inr (9, mOb ad th (nI kn) (nI rn) (nI cm) (nI dp))), (ad 29, aI E 256 c29), (ad 30, aI E 32 c30), (ad 34, aI E 16 c34), (ad 35, aI E 8 c35), (ad 36, aI E 8 c36)] H → va_D A [(mo, .inr (9, mOb ad th (nI kn) (nI rn) (nI cm) (nI dp))), (ad 29, aI E 256 c29), (ad 30, aI E 32 c30), (ad 34, aI E 16 c34), (ad 35, aI E 8 c35), (ad 36, aI E 8 c36)] → va_S A s.heap H locs → ∀ ls : Array Slot, lv_has ls 6 [(5, .int (nI (12 * q + i))), (4, .int (b1 (hpk i a25 a26 q (fun k => uB8 (a3 k) ++ mrowB rl (a11 q) (a14 q) oc a13 a8 a9 tn a16 a17 dn a19 a20 a21 pn a23 q) k))), (3, .int (nI k)), (2, .int (mk (hpk sn a25 a26 q (fun k => uB8 (a3 k) ++ mrowB rl (a11 q) (a14 q) oc a13 a8 a9 tn a16 a17 dn a19 a20 a21 pn a23 q)) k)), (0, .ref mo), (1, .int (nI q))] → W p l e ({ frames := 6, cells := 0, slots := 0, locals := 143 } : Room) s m ([.ref mo, .int (nI q)] : List Value).toArray below meth c H locs 0 0 (MQ below (QI E (pX8_rightKeys E mo ad th kn rn mn dp a29 a30 a34 a35 a36 a3 a14 a32 a33 a8 a9 a10 a11 a12 a13 a15 a16 a17 a18 a19 a20 a21 a22 a23 a24 a25 a26 q rl oc tn dn pn sn) A) ([.ref mo, .int (nI q)] : List Value).toArray s 0 0 A) (F0 m 21 ls []) := by
          intro fz21
          induction fz21 with
          | zero =>
            intro i cm c29 c30 c34 c35 c36 hi hfuel
            exact absurd hfuel (by omega)
          | succ fz21 ih21 =>
            intro i cm c29 c30 c34 c35 c36 hi hfuel H locs hP hD hS ls hl
            refine lv_iload hx hb dX8_rightKeys_21 (lv_at hl 0 rfl) ?_
            refine lv_bipush (v := 12) hx hb dX8_rightKeys_23 (by decide) ?_
            refine lv_iload_n hx hb dX8_rightKeys_25 rfl (lv_at hl 5 rfl) ?_
            refine lv_imul hx hb dX8_rightKeys_26 ?_
            refine xtop (y := nI (12 * q)) (pk_mul _ _) ?_
            refine lv_aload_n hx hb dX8_rightKeys_27 rfl (lv_at hl 4 rfl) ?_
            refine xgt TX8_24 (v := .ref (ad 24)) hx hb hts hiX8 hown hev.1 hP 0 rfl (by decide) hf75 rfl dX8_rightKeys_28 ?_
            refine lv_iload_n hx hb dX8_rightKeys_31 rfl (lv_at hl 5 rfl) ?_
            refine xiald (k := (q)) hx hb hev.1 (xro hR0 hap hS) 19 1 rfl rfl (by omega) (by decide) dX8_rightKeys_32 ?_
            refine xtop (y := nI sn) (ha24) ?_
            refine lv_iadd hx hb dX8_rightKeys_33 ?_
            refine xtop (y := nI (12 * q + sn)) ((nI_add (12 * q) sn).trans (congrArg nI (by omega))) ?_
            refine lv_icmp_ge (tgt := 83) hx hb dX8_rightKeys_34 (by decide) (fun c2 => ?_) (fun c2 => ?_)
            · skip
              have kc2 : (12 * q + sn) ≤ (12 * q + i) := (nI_leI (a := (12 * q + sn)) (b := (12 * q + i)) (by omega) (by omega)).mp c2
              have hin9 : i = sn := by omega
              rw [hin9] at hl
              have hl : lv_has ls 6 [(5, .int (nI (12 * q + sn))), (4, .int (b1 (hpk sn a25 a26 q (fun k => uB8 (a3 k) ++ mrowB rl (a11 q) (a14 q) oc a13 a8 a9 tn a16 a17 dn a19 a20 a21 pn a23 q) k))), (3, .int (nI k)), (2, .int (mk (hpk sn a25 a26 q (fun k => uB8 (a3 k) ++ mrowB rl (a11 q) (a14 q) oc a13 a8 a9 tn a16 a17 dn a19 a20 a21 pn a23 q)) k)), (0, .ref mo), (1, .int (nI q))] := hl
              refine lv_iload_n hx hb dX8_rightKeys_83 rfl (lv_at hl 3 rfl) ?_
              refine lv_iload hx hb dX8_rightKeys_84 (lv_at hl 1 rfl) ?_
              refine lv_if_eq (tgt := 95) hx hb dX8_rightKeys_86 (by decide) (fun c3 => ?_) (fun c3 => ?_)
              · skip
                have kc3 := b1_0.mp c3
                refine lv_iconst (v := 0) hx hb dX8_rightKeys_95 (by decide) ?_
                refine lv_ior hx hb dX8_rightKeys_96 ?_
                refine xtop (y := mk (hpk sn a25 a26 q (fun k => uB8 (a3 k) ++ mrowB rl (a11 q) (a14 q) oc a13 a8 a9 tn a16 a17 dn a19 a20 a21 pn a23 q)) (k + 1)) ((Int32.or_zero).trans (mk_no (q := (hpk sn a25 a26 q (fun k => uB8 (a3 k) ++ mrowB rl (a11 q) (a14 q) oc a13 a8 a9 tn a16 a17 dn a19 a20 a21 pn a23 q))) kc3).symm) ?_
                refine lv_istore_n (lv' := [(2, .int (mk (hpk sn a25 a26 q (fun k => uB8 (a3 k) ++ mrowB rl (a11 q) (a14 q) oc a13 a8 a9 tn a16 a17 dn a19 a20 a21 pn a23 q)) (k + 1))), (5, .int (nI (12 * q + sn))), (4, .int (b1 (hpk sn a25 a26 q (fun k => uB8 (a3 k) ++ mrowB rl (a11 q) (a14 q) oc a13 a8 a9 tn a16 a17 dn a19 a20 a21 pn a23 q) k))), (3, .int (nI k)), (0, .ref mo), (1, .int (nI q))]) hx hb dX8_rightKeys_97 rfl hl (by decide) rfl (fun ls hl => ?_)
                refine lv_iinc (v := nI (k + 1)) (lv' := [(3, .int (nI (k + 1))), (2, .int (mk (hpk sn a25 a26 q (fun k => uB8 (a3 k) ++ mrowB rl (a11 q) (a14 q) oc a13 a8 a9 tn a16 a17 dn a19 a20 a21 pn a23 q)) (k + 1))), (5, .int (nI (12 * q + sn))), (4, .int (b1 (hpk sn a25 a26 q (fun k => uB8 (a3 k) ++ mrowB rl (a11 q) (a14 q) oc a13 a8 a9 tn a16 a17 dn a19 a20 a21 pn a23 q) k))), (0, .ref mo), (1, .int (nI q))]) hx hb dX8_rightKeys_98 hl (k := 3) rfl ((nI_add k 1).trans (congrArg nI (by omega))) (by decide) rfl (fun ls hl => ?_)
                refine lv_goto (tgt := 4) hx hb dX8_rightKeys_101 (by decide) ?_
                exact ih4  (k + 1) cm c29 c30 c34 c35 c36 (by omega) (by omega) _ _ hP hD hS ls (lv_sub hl [0, 1, 4, 5] rfl)
              · skip
                have kc3 := b1_n.mp c3
                refine lv_iconst (v := 1) hx hb dX8_rightKeys_89 (by decide) ?_
                refine lv_iload_n hx hb dX8_rightKeys_90 rfl (lv_at hl 2 rfl) ?_
                refine lv_ishl hx hb dX8_rightKeys_91 ?_
                refine lv_goto (tgt := 96) hx hb dX8_rightKeys_92 (by decide) ?_
                refine lv_ior hx hb dX8_rightKeys_96 ?_
                refine xtop (y := mk (hpk sn a25 a26 q (fun k => uB8 (a3 k) ++ mrowB rl (a11 q) (a14 q) oc a13 a8 a9 tn a16 a17 dn a19 a20 a21 pn a23 q)) (k + 1)) (mk_yes (q := (hpk sn a25 a26 q (fun k => uB8 (a3 k) ++ mrowB rl (a11 q) (a14 q) oc a13 a8 a9 tn a16 a17 dn a19 a20 a21 pn a23 q))) kc3) ?_
                refine lv_istore_n (lv' := [(2, .int (mk (hpk sn a25 a26 q (fun k => uB8 (a3 k) ++ mrowB rl (a11 q) (a14 q) oc a13 a8 a9 tn a16 a17 dn a19 a20 a21 pn a23 q)) (k + 1))), (5, .int (nI (12 * q + sn))), (4, .int (b1 (hpk sn a25 a26 q (fun k => uB8 (a3 k) ++ mrowB rl (a11 q) (a14 q) oc a13 a8 a9 tn a16 a17 dn a19 a20 a21 pn a23 q) k))), (3, .int (nI k)), (0, .ref mo), (1, .int (nI q))]) hx hb dX8_rightKeys_97 rfl hl (by decide) rfl (fun ls hl => ?_)
                refine lv_iinc (v := nI (k + 1)) (lv' := [(3, .int (nI (k + 1))), (2, .int (mk (hpk sn a25 a26 q (fun k => uB8 (a3 k) ++ mrowB rl (a11 q) (a14 q) oc a13 a8 a9 tn a16 a17 dn a19 a20 a21 pn a23 q)) (k + 1))), (5, .int (nI (12 * q + sn))), (4, .int (b1 (hpk sn a25 a26 q (fun k => uB8 (a3 k) ++ mrowB rl (a11 q) (a14 q) oc a13 a8 a9 tn a16 a17 dn a19 a20 a21 pn a23 q) k))), (0, .ref mo), (1, .int (nI q))]) hx hb dX8_rightKeys_98 hl (k := 3) rfl ((nI_add k 1).trans (congrArg nI (by omega))) (by decide) rfl (fun ls hl => ?_)
                refine lv_goto (tgt := 4) hx hb dX8_rightKeys_101 (by decide) ?_
                exact ih4  (k + 1) cm c29 c30 c34 c35 c36 (by omega) (by omega) _ _ hP hD hS ls (lv_sub hl [0, 1, 4, 5] rfl)
            · skip
              have kc2 : ¬ (12 * q + sn) ≤ (12 * q + i) := fun h9 => c2 ((nI_leI (a := (12 * q + sn)) (b := (12 * q + i)) (by omega) (by omega)).mpr h9)
              refine lv_iload hx hb dX8_rightKeys_37 (lv_at hl 1 rfl) ?_
              refine lv_if_ne (tgt := 70) hx hb dX8_rightKeys_39 (by decide) (fun c4 => ?_) (fun c4 => ?_)
              · skip
                have kc4 := b1_n.mp c4
                refine lv_iconst (v := 1) hx hb dX8_rightKeys_70 (by decide) ?_
                refine lv_goto (tgt := 75) hx hb dX8_rightKeys_71 (by decide) ?_
                refine xtop (y := b1 (hpk (i + 1) a25 a26 q (fun k => uB8 (a3 k) ++ mrowB rl (a11 q) (a14 q) oc a13 a8 a9 tn a16 a17 dn a19 a20 a21 pn a23 q) k)) ((b1_t (hpk_up (n := i) (sg := a25) (sv := a26) (q := q) (k := k) (L := (fun k => uB8 (a3 k) ++ mrowB rl (a11 q) (a14 q) oc a13 a8 a9 tn a16 a17 dn a19 a20 a21 pn a23 q)) kc4)).symm) ?_
                refine lv_istore (lv' := [(4, .int (b1 (hpk (i + 1) a25 a26 q (fun k => uB8 (a3 k) ++ mrowB rl (a11 q) (a14 q) oc a13 a8 a9 tn a16 a17 dn a19 a20 a21 pn a23 q) k))), (5, .int (nI (12 * q + i))), (3, .int (nI k)), (2, .int (mk (hpk sn a25 a26 q (fun k => uB8 (a3 k) ++ mrowB rl (a11 q) (a14 q) oc a13 a8 a9 tn a16 a17 dn a19 a20 a21 pn a23 q)) k)), (0, .ref mo), (1, .int (nI q))]) hx hb dX8_rightKeys_75 hl (by decide) rfl (fun ls hl => ?_)
                refine lv_iinc (v := nI (12 * q + i + 1)) (lv' := [(5, .int (nI (12 * q + i + 1))), (4, .int (b1 (hpk (i + 1) a25 a26 q (fun k => uB8 (a3 k) ++ mrowB rl (a11 q) (a14 q) oc a13 a8 a9 tn a16 a17 dn a19 a20 a21 pn a23 q) k))), (3, .int (nI k)), (2, .int (mk (hpk sn a25 a26 q (fun k => uB8 (a3 k) ++ mrowB rl (a11 q) (a14 q) oc a13 a8 a9 tn a16 a17 dn a19 a20 a21 pn a23 q)) k)), (0, .ref mo), (1, .int (nI q))]) hx hb dX8_rightKeys_77 hl (k := 1) rfl ((nI_add (12 * q + i) 1).trans (congrArg nI (by omega))) (by decide) rfl (fun ls hl => ?_)
                refine lv_goto (tgt := 21) hx hb dX8_rightKeys_80 (by decide) ?_
                rw [show (12 * q + i + 1 : Nat) = 12 * q + (i + 1) by omega] at hl
                have hl : lv_has ls 6 [(5, .int (nI (12 * q + (i + 1)))), (4, .int (b1 (hpk (i + 1) a25 a26 q (fun k => uB8 (a3 k) ++ mrowB rl (a11 q) (a14 q) oc a13 a8 a9 tn a16 a17 dn a19 a20 a21 pn a23 q) k))), (3, .int (nI k)), (2, .int (mk (hpk sn a25 a26 q (fun k => uB8 (a3 k) ++ mrowB rl (a11 q) (a14 q) oc a13 a8 a9 tn a16 a17 dn a19 a20 a21 pn a23 q)) k)), (0, .ref mo), (1, .int (nI q))] := hl
                exact ih21  (i + 1) cm c29 c30 c34 c35 c36 (by omega) (by omega) _ _ hP hD hS ls (lv_sub hl [0, 1, 2, 3, 4, 5] rfl)
              · skip
                have kc4 := b1_0.mp c4
                refine lv_aload_n hx hb dX8_rightKeys_42 rfl (lv_at hl 4 rfl) ?_
                refine xgt TX8_25 (v := .ref (ad 25)) hx hb hts hiX8 hown hev.1 hP 0 rfl (by decide) hf78 rfl dX8_rightKeys_43 ?_
                refine lv_iload hx hb dX8_rightKeys_46 (lv_at hl 0 rfl) ?_
                refine xiald (k := (12 * q + i)) hx hb hev.1 (xro hR0 hap hS) 20 1 rfl rfl (by omega) (by decide) dX8_rightKeys_48 ?_
                refine lv_iload_n hx hb dX8_rightKeys_49 rfl (lv_at hl 2 rfl) ?_
                refine lv_icmp_ne (tgt := 74) hx hb dX8_rightKeys_50 (by decide) (fun c5 => ?_) (fun c5 => ?_)
                · skip
                  refine lv_iconst (v := 0) hx hb dX8_rightKeys_74 (by decide) ?_
                  refine xtop (y := b1 (hpk (i + 1) a25 a26 q (fun k => uB8 (a3 k) ++ mrowB rl (a11 q) (a14 q) oc a13 a8 a9 tn a16 a17 dn a19 a20 a21 pn a23 q) k)) ((b1_f (hpk_no (n := i) (sg := a25) (sv := a26) (q := q) (k := k) (L := (fun k => uB8 (a3 k) ++ mrowB rl (a11 q) (a14 q) oc a13 a8 a9 tn a16 a17 dn a19 a20 a21 pn a23 q)) kc4 (fun z => c5 z.1))).symm) ?_
                  refine lv_istore (lv' := [(4, .int (b1 (hpk (i + 1) a25 a26 q (fun k => uB8 (a3 k) ++ mrowB rl (a11 q) (a14 q) oc a13 a8 a9 tn a16 a17 dn a19 a20 a21 pn a23 q) k))), (5, .int (nI (12 * q + i))), (3, .int (nI k)), (2, .int (mk (hpk sn a25 a26 q (fun k => uB8 (a3 k) ++ mrowB rl (a11 q) (a14 q) oc a13 a8 a9 tn a16 a17 dn a19 a20 a21 pn a23 q)) k)), (0, .ref mo), (1, .int (nI q))]) hx hb dX8_rightKeys_75 hl (by decide) rfl (fun ls hl => ?_)
                  refine lv_iinc (v := nI (12 * q + i + 1)) (lv' := [(5, .int (nI (12 * q + i + 1))), (4, .int (b1 (hpk (i + 1) a25 a26 q (fun k => uB8 (a3 k) ++ mrowB rl (a11 q) (a14 q) oc a13 a8 a9 tn a16 a17 dn a19 a20 a21 pn a23 q) k))), (3, .int (nI k)), (2, .int (mk (hpk sn a25 a26 q (fun k => uB8 (a3 k) ++ mrowB rl (a11 q) (a14 q) oc a13 a8 a9 tn a16 a17 dn a19 a20 a21 pn a23 q)) k)), (0, .ref mo), (1, .int (nI q))]) hx hb dX8_rightKeys_77 hl (k := 1) rfl ((nI_add (12 * q + i) 1).trans (congrArg nI (by omega))) (by decide) rfl (fun ls hl => ?_)
                  refine lv_goto (tgt := 21) hx hb dX8_rightKeys_80 (by decide) ?_
                  rw [show (12 * q + i + 1 : Nat) = 12 * q + (i + 1) by omega] at hl
                  have hl : lv_has ls 6 [(5, .int (nI (12 * q + (i + 1)))), (4, .int (b1 (hpk (i + 1) a25 a26 q (fun k => uB8 (a3 k) ++ mrowB rl (a11 q) (a14 q) oc a13 a8 a9 tn a16 a17 dn a19 a20 a21 pn a23 q) k))), (3, .int (nI k)), (2, .int (mk (hpk sn a25 a26 q (fun k => uB8 (a3 k) ++ mrowB rl (a11 q) (a14 q) oc a13 a8 a9 tn a16 a17 dn a19 a20 a21 pn a23 q)) k)), (0, .ref mo), (1, .int (nI q))] := hl
                  exact ih21  (i + 1) cm c29 c30 c34 c35 c36 (by omega) (by omega) _ _ hP hD hS ls (lv_sub hl [0, 1, 2, 3, 4, 5] rfl)
                · skip
                  refine lv_aload_n hx hb dX8_rightKeys_53 rfl (lv_at hl 4 rfl) ?_
                  refine xgt TX8_26 (v := .ref (ad 26)) hx hb hts hiX8 hown hev.1 hP 0 rfl (by decide) hf81 rfl dX8_rightKeys_54 ?_
                  refine lv_iload hx hb dX8_rightKeys_57 (lv_at hl 0 rfl) ?_
                  refine xlald (k := (12 * q + i)) hx hb hev.1 (xro hR0 hap hS) 21 2 rfl rfl (by omega) (by decide) dX8_rightKeys_59 ?_
                  refine lv_aload_n hx hb dX8_rightKeys_60 rfl (lv_at hl 4 rfl) ?_
                  refine lv_iload_n hx hb dX8_rightKeys_61 rfl (lv_at hl 5 rfl) ?_
                  refine lv_iload_n hx hb dX8_rightKeys_62 rfl (lv_at hl 2 rfl) ?_
                  have hP := hP.sub (ws' := [(mo, .inr (9, mOb ad th (nI kn) (nI rn) (nI cm) (nI dp))), (ad 29, aI E 256 c29), (ad 30, aI E 32 c30), (ad 34, aI E 16 c34), (ad 35, aI E 8 c35), (ad 36, aI E 8 c36)] ++ []) [0, 1, 2, 3, 4, 5] rfl
                  have hD := hD.sub (ws' := [(mo, .inr (9, mOb ad th (nI kn) (nI rn) (nI cm) (nI dp))), (ad 29, aI E 256 c29), (ad 30, aI E 32 c30), (ad 34, aI E 16 c34), (ad 35, aI E 8 c35), (ad 36, aI E 8 c36)] ++ []) [0, 1, 2, 3, 4, 5] (by decide) rfl
                  refine xcl (va_runV (As := [.int (nI q), .int (nI k)]) (rest := [.long (a26 (12 * q + i))]) ⟨hx, hb, hml, hown, hts⟩ (kX8_rightOne l E mo ad th kn rn cm dp c29 c30 c34 c35 c36 a3 a14 a32 a33 a8 a9 a10 a11 a12 a13 a15 a16 a17 a18 a19 a20 a21 a22 a23 q rl oc tn dn pn k (by first | assumption | omega) (by first | assumption | omega) (by first | assumption | omega) (by first | assumption | omega) (by first | assumption | omega) (by first | assumption | omega) (by first | assumption | omega) (by first | assumption | omega) (by first | assumption | omega) (by first | assumption | omega) (by first | assumption | omega) (by first | assumption | omega) (by first | assumption | omega) (by first | assumption | omega) H.size) (cwV 2 hts gX8_rightKeys_X8_rightOne rfl rfl rfl (by decide +kernel) ⟨Nat.le_of_ble_eq_true rfl, Nat.le_of_ble_eq_true rfl⟩) ⟨CP.blind, (va_recv hev.1 hP.left (ci := 9) (q0 := 0) rfl rfl), (xpre hev hz hA hP hD hS hR0 hap [0, 1, 2, 3, 4, 5, 6, 7, 8, 9, 10, 11, 12, 13, 14, 15, 16, 17, 18] rfl)⟩ rfl rfl hl.1 rfl (lv_room (Nat.le_of_ble_eq_true rfl)) dX8_rightKeys_63 ⟨Nat.le_of_ble_eq_true rfl, Nat.le_of_ble_eq_true rfl⟩) hP hD hS hA (fun r6 w7 H locs h8 hP hD hS => ?_)
                  obtain ⟨m29, g2910, g3011, g3412, g3513, g3614, rfl, rfl, h8⟩ := h8
                  try dsimp only at h8
                  have hP : va_P E.1 vwCl [(mo, .inr (9, mOb ad th (nI kn) (nI rn) (nI m29) (nI dp))), (ad 29, aI E 256 g2910), (ad 30, aI E 32 g3011), (ad 34, aI E 16 g3412), (ad 35, aI E 8 g3513), (ad 36, aI E 8 g3614)] H := hP
                  have hD : va_D A [(mo, .inr (9, mOb ad th (nI kn) (nI rn) (nI m29) (nI dp))), (ad 29, aI E 256 g2910), (ad 30, aI E 32 g3011), (ad 34, aI E 16 g3412), (ad 35, aI E 8 g3513), (ad 36, aI E 8 g3614)] := hD
                  refine W.lcmp hx hb dX8_rightKeys_66 ?_
                  refine lv_if_ne (tgt := 74) hx hb dX8_rightKeys_67 (by decide) (fun c15 => ?_) (fun c15 => ?_)
                  · skip
                    have kc15 : ¬ (a26 (12 * q + i)) = (mSig (uB8 (a3 k) ++ mrowB rl (a11 q) (a14 q) oc a13 a8 a9 tn a16 a17 dn a19 a20 a21 pn a23 q)) := fun h9 => c15 ((lg_cmp_eq (a26 (12 * q + i)) (mSig (uB8 (a3 k) ++ mrowB rl (a11 q) (a14 q) oc a13 a8 a9 tn a16 a17 dn a19 a20 a21 pn a23 q))).mpr h9)
                    refine lv_iconst (v := 0) hx hb dX8_rightKeys_74 (by decide) ?_
                    refine xtop (y := b1 (hpk (i + 1) a25 a26 q (fun k => uB8 (a3 k) ++ mrowB rl (a11 q) (a14 q) oc a13 a8 a9 tn a16 a17 dn a19 a20 a21 pn a23 q) k)) ((b1_f (hpk_no (n := i) (sg := a25) (sv := a26) (q := q) (k := k) (L := (fun k => uB8 (a3 k) ++ mrowB rl (a11 q) (a14 q) oc a13 a8 a9 tn a16 a17 dn a19 a20 a21 pn a23 q)) kc4 (fun z => kc15 z.2))).symm) ?_
                    refine lv_istore (lv' := [(4, .int (b1 (hpk (i + 1) a25 a26 q (fun k => uB8 (a3 k) ++ mrowB rl (a11 q) (a14 q) oc a13 a8 a9 tn a16 a17 dn a19 a20 a21 pn a23 q) k))), (5, .int (nI (12 * q + i))), (3, .int (nI k)), (2, .int (mk (hpk sn a25 a26 q (fun k => uB8 (a3 k) ++ mrowB rl (a11 q) (a14 q) oc a13 a8 a9 tn a16 a17 dn a19 a20 a21 pn a23 q)) k)), (0, .ref mo), (1, .int (nI q))]) hx hb dX8_rightKeys_75 hl (by decide) rfl (fun ls hl => ?_)
                    refine lv_iinc (v := nI (12 * q + i + 1)) (lv' := [(5, .int (nI (12 * q + i + 1))), (4, .int (b1 (hpk (i + 1) a25 a26 q (fun k => uB8 (a3 k) ++ mrowB rl (a11 q) (a14 q) oc a13 a8 a9 tn a16 a17 dn a19 a20 a21 pn a23 q) k))), (3, .int (nI k)), (2, .int (mk (hpk sn a25 a26 q (fun k => uB8 (a3 k) ++ mrowB rl (a11 q) (a14 q) oc a13 a8 a9 tn a16 a17 dn a19 a20 a21 pn a23 q)) k)), (0, .ref mo), (1, .int (nI q))]) hx hb dX8_rightKeys_77 hl (k := 1) rfl ((nI_add (12 * q + i) 1).trans (congrArg nI (by omega))) (by decide) rfl (fun ls hl => ?_)
                    refine lv_goto (tgt := 21) hx hb dX8_rightKeys_80 (by decide) ?_
                    rw [show (12 * q + i + 1 : Nat) = 12 * q + (i + 1) by omega] at hl
                    have hl : lv_has ls 6 [(5, .int (nI (12 * q + (i + 1)))), (4, .int (b1 (hpk (i + 1) a25 a26 q (fun k => uB8 (a3 k) ++ mrowB rl (a11 q) (a14 q) oc a13 a8 a9 tn a16 a17 dn a19 a20 a21 pn a23 q) k))), (3, .int (nI k)), (2, .int (mk (hpk sn a25 a26 q (fun k => uB8 (a3 k) ++ mrowB rl (a11 q) (a14 q) oc a13 a8 a9 tn a16 a17 dn a19 a20 a21 pn a23 q)) k)), (0, .ref mo), (1, .int (nI q))] := hl
                    exact ih21  (i + 1) m29 g2910 g3011 g3412 g3513 g3614 (by omega) (by omega) _ _ hP hD hS ls (lv_sub hl [0, 1, 2, 3, 4, 5] rfl)
                  · skip
                    have kc15 : (a26 (12 * q + i)) = (mSig (uB8 (a3 k) ++ mrowB rl (a11 q) (a14 q) oc a13 a8 a9 tn a16 a17 dn a19 a20 a21 pn a23 q)) := (lg_cmp_eq (a26 (12 * q + i)) (mSig (uB8 (a3 k) ++ mrowB rl (a11 q) (a14 q) oc a13 a8 a9 tn a16 a17 dn a19 a20 a21 pn a23 q))).mp c15
                    refine lv_iconst (v := 1) hx hb dX8_rightKeys_70 (by decide) ?_
                    refine lv_goto (tgt := 75) hx hb dX8_rightKeys_71 (by decide) ?_
                    refine xtop (y := b1 (hpk (i + 1) a25 a26 q (fun k => uB8 (a3 k) ++ mrowB rl (a11 q) (a14 q) oc a13 a8 a9 tn a16 a17 dn a19 a20 a21 pn a23 q) k)) ((b1_t (hpk_new (n := i) (sg := a25) (sv := a26) (q := q) (k := k) (L := (fun k => uB8 (a3 k) ++ mrowB rl (a11 q) (a14 q) oc a13 a8 a9 tn a16 a17 dn a19 a20 a21 pn a23 q)) c5 kc15)).symm) ?_
                    refine lv_istore (lv' := [(4, .int (b1 (hpk (i + 1) a25 a26 q (fun k => uB8 (a3 k) ++ mrowB rl (a11 q) (a14 q) oc a13 a8 a9 tn a16 a17 dn a19 a20 a21 pn a23 q) k))), (5, .int (nI (12 * q + i))), (3, .int (nI k)), (2, .int (mk (hpk sn a25 a26 q (fun k => uB8 (a3 k) ++ mrowB rl (a11 q) (a14 q) oc a13 a8 a9 tn a16 a17 dn a19 a20 a21 pn a23 q)) k)), (0, .ref mo), (1, .int (nI q))]) hx hb dX8_rightKeys_75 hl (by decide) rfl (fun ls hl => ?_)
                    refine lv_iinc (v := nI (12 * q + i + 1)) (lv' := [(5, .int (nI (12 * q + i + 1))), (4, .int (b1 (hpk (i + 1) a25 a26 q (fun k => uB8 (a3 k) ++ mrowB rl (a11 q) (a14 q) oc a13 a8 a9 tn a16 a17 dn a19 a20 a21 pn a23 q) k))), (3, .int (nI k)), (2, .int (mk (hpk sn a25 a26 q (fun k => uB8 (a3 k) ++ mrowB rl (a11 q) (a14 q) oc a13 a8 a9 tn a16 a17 dn a19 a20 a21 pn a23 q)) k)), (0, .ref mo), (1, .int (nI q))]) hx hb dX8_rightKeys_77 hl (k := 1) rfl ((nI_add (12 * q + i) 1).trans (congrArg nI (by omega))) (by decide) rfl (fun ls hl => ?_)
                    refine lv_goto (tgt := 21) hx hb dX8_rightKeys_80 (by decide) ?_
                    rw [show (12 * q + i + 1 : Nat) = 12 * q + (i + 1) by omega] at hl
                    have hl : lv_has ls 6 [(5, .int (nI (12 * q + (i + 1)))), (4, .int (b1 (hpk (i + 1) a25 a26 q (fun k => uB8 (a3 k) ++ mrowB rl (a11 q) (a14 q) oc a13 a8 a9 tn a16 a17 dn a19 a20 a21 pn a23 q) k))), (3, .int (nI k)), (2, .int (mk (hpk sn a25 a26 q (fun k => uB8 (a3 k) ++ mrowB rl (a11 q) (a14 q) oc a13 a8 a9 tn a16 a17 dn a19 a20 a21 pn a23 q)) k)), (0, .ref mo), (1, .int (nI q))] := hl
                    exact ih21  (i + 1) m29 g2910 g3011 g3412 g3513 g3614 (by omega) (by omega) _ _ hP hD hS ls (lv_sub hl [0, 1, 2, 3, 4, 5] rfl)
        exact loop21 (sn + 1) 0 bm b29 b30 b34 b35 b36 (by omega) (by omega) _ _ hP hD hS ls (lv_sub hl [0, 1, 2, 3, 4, 5] rfl)
  exact loop4 (kn + 1) 0 mn a29 a30 a34 a35 a36 (by omega) (by omega) _ _ hP hD hS ls (lv_sub hl [0, 1, 2, 3] rfl)

abbrev pX8_hasQuorum (E : xE) (mo : Nat) (ad : Nat → Nat) (th : Int32) (kn : Nat) (rn : Nat) (mn : Nat) (dp : Nat) (a29 : Nat → Int32) (a30 : Nat → Int32) (a34 : Nat → Int32) (a35 : Nat → Int32) (a36 : Nat → Int32) (a3 : Nat → Int64) (a14 : Nat → Int64) (a32 : Nat → Int32) (a33 : Nat → Int32) (a8 : Nat → Int32) (a9 : Nat → Int32) (a10 : Nat → Int32) (a11 : Nat → Int32) (a12 : Nat → Int32) (a13 : Nat → Int32) (a15 : Nat → Int32) (a16 : Nat → Int32) (a17 : Nat → Int32) (a18 : Nat → Int32) (a19 : Nat → Int32) (a20 : Nat → Int32) (a21 : Nat → Int32) (a22 : Nat → Int32) (a23 : Nat → Int32) (a24 : Nat → Int32) (a25 : Nat → Int32) (a26 : Nat → Int64) (a4 : Nat → Int64) (a5 : Nat → Int32) (q : Nat) (rl : Nat) (oc : Nat) (tn : Nat) (dn : Nat) (pn : Nat) (sn : Nat) (of : Nat) (ro : Nat) (t : Int64) (r : Int32) (w : va_W) : Prop := ∃ (m2 : Nat) (g29 : Nat → Int32) (g30 : Nat → Int32) (g34 : Nat → Int32) (g35 : Nat → Int32) (g36 : Nat → Int32), w = [(mo, .inr (9, mOb ad th (nI kn) (nI rn) (nI m2) (nI dp))), (ad 29, aI E 256 g29), (ad 30, aI E 32 g30), (ad 34, aI E 16 g34), (ad 35, aI E 8 g35), (ad 36, aI E 8 g36)] ∧ r = b1 (¬ btsI (msk (fun k => a4 k ≤ t ∨ ¬ a5 k = 0) (mk (hpk sn a25 a26 q (fun k => uB8 (a3 k) ++ mrowB rl (a11 q) (a14 q) oc a13 a8 a9 tn a16 a17 dn a19 a20 a21 pn a23 q)) kn &&& a9 (10 * ro + of)) kn) 20 < a8 (10 * ro + of)) ∧ (True)
set_option maxHeartbeats 4000000 in
set_option maxRecDepth 100000 in
theorem kX8_hasQuorum (l : Launch) (E : xE) (mo : Nat) (ad : Nat → Nat) (th : Int32) (kn : Nat) (rn : Nat) (mn : Nat) (dp : Nat) (a29 : Nat → Int32) (a30 : Nat → Int32) (a34 : Nat → Int32) (a35 : Nat → Int32) (a36 : Nat → Int32) (a3 : Nat → Int64) (a14 : Nat → Int64) (a32 : Nat → Int32) (a33 : Nat → Int32) (a8 : Nat → Int32) (a9 : Nat → Int32) (a10 : Nat → Int32) (a11 : Nat → Int32) (a12 : Nat → Int32) (a13 : Nat → Int32) (a15 : Nat → Int32) (a16 : Nat → Int32) (a17 : Nat → Int32) (a18 : Nat → Int32) (a19 : Nat → Int32) (a20 : Nat → Int32) (a21 : Nat → Int32) (a22 : Nat → Int32) (a23 : Nat → Int32) (a24 : Nat → Int32) (a25 : Nat → Int32) (a26 : Nat → Int64) (a4 : Nat → Int64) (a5 : Nat → Int32) (q : Nat) (rl : Nat) (oc : Nat) (tn : Nat) (dn : Nat) (pn : Nat) (sn : Nat) (of : Nat) (ro : Nat) (t : Int64) (hfs : ∀ k, k < 8 → a32 k = sFS k) (hst : ∀ k, k < 64 → a33 k = sRC k) (hr24 : q < 24) (ha10 : a10 q = nI rl) (ha12 : a12 q = nI oc) (ha15 : a15 q = nI tn) (ha18 : a18 q = nI dn) (ha22 : a22 q = nI pn) (hrl : rl < 10) (hoc : oc ≤ 16) (htn : tn ≤ 7) (hdn : dn ≤ 6) (hpn : pn ≤ 6) (ha24 : a24 q = nI sn) (hsn : sn ≤ 12) (hkn : kn ≤ 20) (hof : of < 10) (hro : ro < 24) : KT l yX8_hasQuorum wsX8_hasQuorum 7 168 0 0 E [(mo, .inr (9, mOb ad th (nI kn) (nI rn) (nI mn) (nI dp))), (ad 29, aI E 256 a29), (ad 30, aI E 32 a30), (ad 34, aI E 16 a34), (ad 35, aI E 8 a35), (ad 36, aI E 8 a36)] [(ad 3, aJ E 20 a3), (ad 14, aJ E 24 a14), (ad 32, aI E 8 a32), (ad 33, aI E 64 a33), (ad 8, aI E 240 a8), (ad 9, aI E 240 a9), (ad 10, aI E 24 a10), (ad 11, aI E 24 a11), (ad 12, aI E 24 a12), (ad 13, aI E 384 a13), (ad 15, aI E 24 a15), (ad 16, aI E 168 a16), (ad 17, aI E 168 a17), (ad 18, aI E 24 a18), (ad 19, aI E 144 a19), (ad 20, aI E 144 a20), (ad 21, aZ E 144 a21), (ad 22, aI E 24 a22), (ad 23, aI E 144 a23), (ad 24, aI E 24 a24), (ad 25, aI E 288 a25), (ad 26, aJ E 288 a26), (ad 4, aJ E 20 a4), (ad 5, aZ E 20 a5)] [.ref mo, .int (nI q), .int (nI of), .int (nI ro), .long t] (QI E (pX8_hasQuorum E mo ad th kn rn mn dp a29 a30 a34 a35 a36 a3 a14 a32 a33 a8 a9 a10 a11 a12 a13 a15 a16 a17 a18 a19 a20 a21 a22 a23 a24 a25 a26 a4 a5 q rl oc tn dn pn sn of ro t)) := by
  refine KT.start (cc := cX8_hasQuorum) (maxL := 8) (ret := (some .boolean)) (by decide) rfl (Nat.le_of_ble_eq_true rfl) ?_
  intro p e s m below meth c A H hx hb hr hlocks hml hts hown hin hP hR0 hD hap hev hz hA hS ls hl
  have hl : lv_has ls 8 [(0, .ref mo), (1, .int (nI q)), (2, .int (nI of)), (3, .int (nI ro)), (4, .long t)] := hl
  have hiX8 : ∀ w ∈ wsX80, w ∈ wsX8_hasQuorum := fun _ h => List.mem_cons_of_mem _ (List.mem_append_right _ h)
  have hf13 := hts (.fieldLink RX8 13 "SignQuorumModel" "end" "[J") (by decide +kernel)
  have hf16 := hts (.fieldLink RX8 16 "SignQuorumModel" "gone" "[Z") (by decide +kernel)
  have hf196 := hts (.fieldLink RX8 196 "SignQuorumModel" "keys" "I") (by decide +kernel)
  have hf27 := hts (.fieldLink RX8 27 "SignQuorumModel" "quorums" "[I") (by decide +kernel)
  have hf30 := hts (.fieldLink RX8 30 "SignQuorumModel" "sets" "[I") (by decide +kernel)
  refine lv_aload_n hx hb dX8_hasQuorum_0 rfl (lv_at hl 0 rfl) ?_
  refine lv_iload_n hx hb dX8_hasQuorum_1 rfl (lv_at hl 1 rfl) ?_
  have hP := hP.sub (ws' := [(mo, .inr (9, mOb ad th (nI kn) (nI rn) (nI mn) (nI dp))), (ad 29, aI E 256 a29), (ad 30, aI E 32 a30), (ad 34, aI E 16 a34), (ad 35, aI E 8 a35), (ad 36, aI E 8 a36)] ++ []) [0, 1, 2, 3, 4, 5] rfl
  have hD := hD.sub (ws' := [(mo, .inr (9, mOb ad th (nI kn) (nI rn) (nI mn) (nI dp))), (ad 29, aI E 256 a29), (ad 30, aI E 32 a30), (ad 34, aI E 16 a34), (ad 35, aI E 8 a35), (ad 36, aI E 8 a36)] ++ []) [0, 1, 2, 3, 4, 5] (by decide) rfl
  refine xci (va_runV (As := [.int (nI q)]) (rest := []) ⟨hx, hb, hml, hown, hts⟩ (kX8_rightKeys l E mo ad th kn rn mn dp a29 a30 a34 a35 a36 a3 a14 a32 a33 a8 a9 a10 a11 a12 a13 a15 a16 a17 a18 a19 a20 a21 a22 a23 a24 a25 a26 q rl oc tn dn pn sn (by first | assumption | omega) (by first | assumption | omega) (by first | assumption | omega) (by first | assumption | omega) (by first | assumption | omega) (by first | assumption | omega) (by first | assumption | omega) (by first | assumption | omega) (by first | assumption | omega) (by first | assumption | omega) (by first | assumption | omega) (by first | assumption | omega) (by first | assumption | omega) (by first | assumption | omega) (by first | assumption | omega) (by first | assumption | omega) H.size) (cwV 1 hts gX8_hasQuorum_X8_rightKeys rfl rfl rfl (by decide +kernel) ⟨Nat.le_of_ble_eq_true rfl, Nat.le_of_ble_eq_true rfl⟩) ⟨CP.blind, (va_recv hev.1 hP.left (ci := 9) (q0 := 0) rfl rfl), (xpre hev hz hA hP hD hS hR0 hap [0, 1, 2, 3, 4, 5, 6, 7, 8, 9, 10, 11, 12, 13, 14, 15, 16, 17, 18, 19, 20, 21] rfl)⟩ rfl rfl hl.1 rfl (lv_room (Nat.le_of_ble_eq_true rfl)) dX8_hasQuorum_2 ⟨Nat.le_of_ble_eq_true rfl, Nat.le_of_ble_eq_true rfl⟩) hP hD hS hA (fun r1 w2 H locs h3 hP hD hS => ?_)
  obtain ⟨m24, g295, g306, g347, g358, g369, rfl, rfl, h3⟩ := h3
  try dsimp only at h3
  have hP : va_P E.1 vwCl [(mo, .inr (9, mOb ad th (nI kn) (nI rn) (nI m24) (nI dp))), (ad 29, aI E 256 g295), (ad 30, aI E 32 g306), (ad 34, aI E 16 g347), (ad 35, aI E 8 g358), (ad 36, aI E 8 g369)] H := hP
  have hD : va_D A [(mo, .inr (9, mOb ad th (nI kn) (nI rn) (nI m24) (nI dp))), (ad 29, aI E 256 g295), (ad 30, aI E 32 g306), (ad 34, aI E 16 g347), (ad 35, aI E 8 g358), (ad 36, aI E 8 g369)] := hD
  refine lv_aload_n hx hb dX8_hasQuorum_5 rfl (lv_at hl 0 rfl) ?_
  refine xgt TX8_9 (v := .ref (ad 9)) hx hb hts hiX8 hown hev.1 hP 0 rfl (by decide) hf30 rfl dX8_hasQuorum_6 ?_
  refine lv_bipush (v := 10) hx hb dX8_hasQuorum_9 (by decide) ?_
  refine lv_iload_n hx hb dX8_hasQuorum_11 rfl (lv_at hl 3 rfl) ?_
  refine lv_imul hx hb dX8_hasQuorum_12 ?_
  refine xtop (y := nI (10 * ro)) (pk_mul _ _) ?_
  refine lv_iload_n hx hb dX8_hasQuorum_13 rfl (lv_at hl 2 rfl) ?_
  refine lv_iadd hx hb dX8_hasQuorum_14 ?_
  refine xtop (y := nI (10 * ro + of)) ((nI_add (10 * ro) of).trans (congrArg nI (by omega))) ?_
  refine xiald (k := (10 * ro + of)) hx hb hev.1 (xro hR0 hap hS) 5 1 rfl rfl (by omega) (by decide) dX8_hasQuorum_15 ?_
  refine lv_iand hx hb dX8_hasQuorum_16 ?_
  refine lv_istore (lv' := [(6, .int ((mk (hpk sn a25 a26 q (fun k => uB8 (a3 k) ++ mrowB rl (a11 q) (a14 q) oc a13 a8 a9 tn a16 a17 dn a19 a20 a21 pn a23 q)) kn) &&& (a9 (10 * ro + of)))), (0, .ref mo), (1, .int (nI q)), (2, .int (nI of)), (3, .int (nI ro)), (4, .long t)]) hx hb dX8_hasQuorum_17 hl (by decide) rfl (fun ls hl => ?_)
  refine lv_iconst (v := 0) hx hb dX8_hasQuorum_19 (by decide) ?_
  refine lv_istore (lv' := [(7, .int 0), (6, .int ((mk (hpk sn a25 a26 q (fun k => uB8 (a3 k) ++ mrowB rl (a11 q) (a14 q) oc a13 a8 a9 tn a16 a17 dn a19 a20 a21 pn a23 q)) kn) &&& (a9 (10 * ro + of)))), (0, .ref mo), (1, .int (nI q)), (2, .int (nI of)), (3, .int (nI ro)), (4, .long t)]) hx hb dX8_hasQuorum_20 hl (by decide) rfl (fun ls hl => ?_)
  have loop22 : ∀ (fz22 : Nat) (k : Nat), (k ≤ kn) → (kn - k < fz22) → ∀ (H : Heap) (locs : List Loc), va_P E.1 vwCl [(mo, .inr (9, mOb ad th (nI kn) (nI rn) (nI m24) (nI dp))), (ad 29, aI E 256 g295), (ad 30, aI E 32 g306), (ad 34, aI E 16 g347), (ad 35, aI E 8 g358), (ad 36, aI E 8 g369)] H → va_D A [(mo, .inr (9, mOb ad th (nI kn) (nI rn) (nI m24) (nI dp))), (ad 29, aI E 256 g295), (ad 30, aI E 32 g306), (ad 34, aI E 16 g347), (ad 35, aI E 8 g358), (ad 36, aI E 8 g369)] → va_S A s.heap H locs → ∀ ls : Array Slot, lv_has ls 8 [(7, .int (nI k)), (6, .int (msk (fun k => a4 k ≤ t ∨ ¬ a5 k = 0) (mk (hpk sn a25 a26 q (fun k => uB8 (a3 k) ++ mrowB rl (a11 q) (a14 q) oc a13 a8 a9 tn a16 a17 dn a19 a20 a21 pn a23 q)) kn &&& a9 (10 * ro + of)) k)), (0, .ref mo), (2, .int (nI of)), (3, .int (nI ro)), (4, .long t)] → W p l e ({ frames := 7, cells := 0, slots := 0, locals := 168 } : Room) s m ([.ref mo, .int (nI q), .int (nI of), .int (nI ro), .long t] : List Value).toArray below meth c H locs 0 0 (MQ below (QI E (pX8_hasQuorum E mo ad th kn rn mn dp a29 a30 a34 a35 a36 a3 a14 a32 a33 a8 a9 a10 a11 a12 a13 a15 a16 a17 a18 a19 a20 a21 a22 a23 a24 a25 a26 a4 a5 q rl oc tn dn pn sn of ro t) A) ([.ref mo, .int (nI q), .int (nI of), .int (nI ro), .long t] : List Value).toArray s 0 0 A) (F0 m 22 ls []) := by
    intro fz22
    induction fz22 with
    | zero =>
      intro k hk hfuel
      exact absurd hfuel (by omega)
    | succ fz22 ih22 =>
      intro k hk hfuel H locs hP hD hS ls hl
      refine lv_iload hx hb dX8_hasQuorum_22 (lv_at hl 0 rfl) ?_
      refine lv_aload_n hx hb dX8_hasQuorum_24 rfl (lv_at hl 2 rfl) ?_
      refine xgt TX8_1 (v := .int (nI kn)) hx hb hts hiX8 hown hev.1 hP 0 rfl (by decide) hf196 rfl dX8_hasQuorum_25 ?_
      refine lv_icmp_ge (tgt := 71) hx hb dX8_hasQuorum_28 (by decide) (fun c10 => ?_) (fun c10 => ?_)
      · skip
        have kc10 : kn ≤ k := (nI_leI (a := kn) (b := k) (by omega) (by omega)).mp c10
        have hin9 : k = kn := by omega
        rw [hin9] at hl
        have hl : lv_has ls 8 [(7, .int (nI kn)), (6, .int (msk (fun k => a4 k ≤ t ∨ ¬ a5 k = 0) (mk (hpk sn a25 a26 q (fun k => uB8 (a3 k) ++ mrowB rl (a11 q) (a14 q) oc a13 a8 a9 tn a16 a17 dn a19 a20 a21 pn a23 q)) kn &&& a9 (10 * ro + of)) kn)), (0, .ref mo), (2, .int (nI of)), (3, .int (nI ro)), (4, .long t)] := hl
        refine lv_iload hx hb dX8_hasQuorum_71 (lv_at hl 1 rfl) ?_
        have hP := hP.sub (ws' := [] ++ [(mo, .inr (9, mOb ad th (nI kn) (nI rn) (nI m24) (nI dp))), (ad 29, aI E 256 g295), (ad 30, aI E 32 g306), (ad 34, aI E 16 g347), (ad 35, aI E 8 g358), (ad 36, aI E 8 g369)]) [0, 1, 2, 3, 4, 5] rfl
        have hD := hD.sub (ws' := [] ++ [(mo, .inr (9, mOb ad th (nI kn) (nI rn) (nI m24) (nI dp))), (ad 29, aI E 256 g295), (ad 30, aI E 32 g306), (ad 34, aI E 16 g347), (ad 35, aI E 8 g358), (ad 36, aI E 8 g369)]) [0, 1, 2, 3, 4, 5] (by decide) rfl
        refine xci (va_runS (As := [.int (msk (fun k => a4 k ≤ t ∨ ¬ a5 k = 0) (mk (hpk sn a25 a26 q (fun k => uB8 (a3 k) ++ mrowB rl (a11 q) (a14 q) oc a13 a8 a9 tn a16 a17 dn a19 a20 a21 pn a23 q)) kn &&& a9 (10 * ro + of)) kn)]) (rest := []) ⟨hx, hb, hml, hown, hts⟩ (kX8_bits l E (msk (fun k => a4 k ≤ t ∨ ¬ a5 k = 0) (mk (hpk sn a25 a26 q (fun k => uB8 (a3 k) ++ mrowB rl (a11 q) (a14 q) oc a13 a8 a9 tn a16 a17 dn a19 a20 a21 pn a23 q)) kn &&& a9 (10 * ro + of)) kn)  H.size) (va_cwS 1 hts gX8_hasQuorum_X8_bits rfl rfl rfl (by decide +kernel) ⟨Nat.le_of_ble_eq_true rfl, Nat.le_of_ble_eq_true rfl⟩) ⟨CP.blind, (xpre hev hz hA hP hD hS hR0 hap [] rfl)⟩ rfl rfl hl.1 rfl (lv_room (Nat.le_of_ble_eq_true rfl)) dX8_hasQuorum_73 ⟨Nat.le_of_ble_eq_true rfl, Nat.le_of_ble_eq_true rfl⟩) hP hD hS hA (fun r11 w12 H locs h13 hP hD hS => ?_)
        obtain ⟨rfl, rfl, h13⟩ := h13
        try dsimp only at h13
        have hP : va_P E.1 vwCl [(mo, .inr (9, mOb ad th (nI kn) (nI rn) (nI m24) (nI dp))), (ad 29, aI E 256 g295), (ad 30, aI E 32 g306), (ad 34, aI E 16 g347), (ad 35, aI E 8 g358), (ad 36, aI E 8 g369)] H := hP
        have hD : va_D A [(mo, .inr (9, mOb ad th (nI kn) (nI rn) (nI m24) (nI dp))), (ad 29, aI E 256 g295), (ad 30, aI E 32 g306), (ad 34, aI E 16 g347), (ad 35, aI E 8 g358), (ad 36, aI E 8 g369)] := hD
        refine lv_aload_n hx hb dX8_hasQuorum_76 rfl (lv_at hl 2 rfl) ?_
        refine xgt TX8_8 (v := .ref (ad 8)) hx hb hts hiX8 hown hev.1 hP 0 rfl (by decide) hf27 rfl dX8_hasQuorum_77 ?_
        refine lv_bipush (v := 10) hx hb dX8_hasQuorum_80 (by decide) ?_
        refine lv_iload_n hx hb dX8_hasQuorum_82 rfl (lv_at hl 4 rfl) ?_
        refine lv_imul hx hb dX8_hasQuorum_83 ?_
        refine xtop (y := nI (10 * ro)) (pk_mul _ _) ?_
        refine lv_iload_n hx hb dX8_hasQuorum_84 rfl (lv_at hl 3 rfl) ?_
        refine lv_iadd hx hb dX8_hasQuorum_85 ?_
        refine xtop (y := nI (10 * ro + of)) ((nI_add (10 * ro) of).trans (congrArg nI (by omega))) ?_
        refine xiald (k := (10 * ro + of)) hx hb hev.1 (xro hR0 hap hS) 4 1 rfl rfl (by omega) (by decide) dX8_hasQuorum_86 ?_
        refine lv_icmp_lt (tgt := 94) hx hb dX8_hasQuorum_87 (by decide) (fun c14 => ?_) (fun c14 => ?_)
        · skip
          refine lv_iconst (v := 0) hx hb dX8_hasQuorum_94 (by decide) ?_
          refine xrz hx hb hr hlocks (by first | rfl | decide | exact b1_narrow _) hP hD hS ⟨m24, g295, g306, g347, g358, g369, rfl, ?_, ?_⟩ dX8_hasQuorum_95
          · exact (b1_f (fun h9 => h9 c14)).symm
          · trivial
        · skip
          refine lv_iconst (v := 1) hx hb dX8_hasQuorum_90 (by decide) ?_
          refine lv_goto (tgt := 95) hx hb dX8_hasQuorum_91 (by decide) ?_
          refine xrz hx hb hr hlocks (by first | rfl | decide | exact b1_narrow _) hP hD hS ⟨m24, g295, g306, g347, g358, g369, rfl, ?_, ?_⟩ dX8_hasQuorum_95
          · exact (b1_t c14).symm
          · trivial
      · skip
        have kc10 : ¬ kn ≤ k := fun h9 => c10 ((nI_leI (a := kn) (b := k) (by omega) (by omega)).mpr h9)
        refine lv_aload_n hx hb dX8_hasQuorum_31 rfl (lv_at hl 2 rfl) ?_
        refine xgt TX8_4 (v := .ref (ad 4)) hx hb hts hiX8 hown hev.1 hP 0 rfl (by decide) hf13 rfl dX8_hasQuorum_32 ?_
        refine lv_iload hx hb dX8_hasQuorum_35 (lv_at hl 0 rfl) ?_
        refine xlald (k := (k)) hx hb hev.1 (xro hR0 hap hS) 22 2 rfl rfl (by omega) (by decide) dX8_hasQuorum_37 ?_
        refine lv_lload hx hb dX8_hasQuorum_38 (lv_at hl 5 rfl) ?_
        refine W.lcmp hx hb dX8_hasQuorum_40 ?_
        refine lv_if_le (tgt := 54) hx hb dX8_hasQuorum_41 (by decide) (fun c15 => ?_) (fun c15 => ?_)
        · skip
          have kc15 : (a4 k) ≤ t := (lg_cmp_le (a4 k) t).mp c15
          refine lv_iload hx hb dX8_hasQuorum_54 (lv_at hl 1 rfl) ?_
          refine lv_iconst (v := 1) hx hb dX8_hasQuorum_56 (by decide) ?_
          refine lv_iload hx hb dX8_hasQuorum_57 (lv_at hl 0 rfl) ?_
          refine lv_ishl hx hb dX8_hasQuorum_59 ?_
          refine lv_iconst (v := (-1)) hx hb dX8_hasQuorum_60 (by decide) ?_
          refine lv_ixor hx hb dX8_hasQuorum_61 ?_
          refine lv_iand hx hb dX8_hasQuorum_62 ?_
          refine xtop (y := msk (fun k => a4 k ≤ t ∨ ¬ a5 k = 0) (mk (hpk sn a25 a26 q (fun k => uB8 (a3 k) ++ mrowB rl (a11 q) (a14 q) oc a13 a8 a9 tn a16 a17 dn a19 a20 a21 pn a23 q)) kn &&& a9 (10 * ro + of)) (k + 1)) (msk_t (q := (fun k => a4 k ≤ t ∨ ¬ a5 k = 0)) (Or.inl kc15)) ?_
          refine lv_istore (lv' := [(6, .int (msk (fun k => a4 k ≤ t ∨ ¬ a5 k = 0) (mk (hpk sn a25 a26 q (fun k => uB8 (a3 k) ++ mrowB rl (a11 q) (a14 q) oc a13 a8 a9 tn a16 a17 dn a19 a20 a21 pn a23 q)) kn &&& a9 (10 * ro + of)) (k + 1))), (7, .int (nI k)), (0, .ref mo), (2, .int (nI of)), (3, .int (nI ro)), (4, .long t)]) hx hb dX8_hasQuorum_63 hl (by decide) rfl (fun ls hl => ?_)
          refine lv_iinc (v := nI (k + 1)) (lv' := [(7, .int (nI (k + 1))), (6, .int (msk (fun k => a4 k ≤ t ∨ ¬ a5 k = 0) (mk (hpk sn a25 a26 q (fun k => uB8 (a3 k) ++ mrowB rl (a11 q) (a14 q) oc a13 a8 a9 tn a16 a17 dn a19 a20 a21 pn a23 q)) kn &&& a9 (10 * ro + of)) (k + 1))), (0, .ref mo), (2, .int (nI of)), (3, .int (nI ro)), (4, .long t)]) hx hb dX8_hasQuorum_65 hl (k := 1) rfl ((nI_add k 1).trans (congrArg nI (by omega))) (by decide) rfl (fun ls hl => ?_)
          refine lv_goto (tgt := 22) hx hb dX8_hasQuorum_68 (by decide) ?_
          exact ih22  (k + 1) (by omega) (by omega) _ _ hP hD hS ls (lv_sub hl [0, 1, 2, 3, 4, 5] rfl)
        · skip
          have kc15 : ¬ (a4 k) ≤ t := fun h9 => c15 ((lg_cmp_le (a4 k) t).mpr h9)
          refine lv_aload_n hx hb dX8_hasQuorum_44 rfl (lv_at hl 2 rfl) ?_
          refine xgt TX8_5 (v := .ref (ad 5)) hx hb hts hiX8 hown hev.1 hP 0 rfl (by decide) hf16 rfl dX8_hasQuorum_45 ?_
          refine lv_iload hx hb dX8_hasQuorum_48 (lv_at hl 0 rfl) ?_
          refine xzald (k := (k)) hx hb hev.1 (xro hR0 hap hS) 23 3 rfl rfl (by omega) (by decide) dX8_hasQuorum_50 ?_
          refine lv_if_eq (tgt := 65) hx hb dX8_hasQuorum_51 (by decide) (fun c16 => ?_) (fun c16 => ?_)
          · skip
            rw [msk_f (q := (fun k => a4 k ≤ t ∨ ¬ a5 k = 0)) (fun z => z.elim kc15 (fun z => z c16))] at hl
            have hl : lv_has ls 8 [(7, .int (nI k)), (6, .int (msk (fun k => a4 k ≤ t ∨ ¬ a5 k = 0) (mk (hpk sn a25 a26 q (fun k => uB8 (a3 k) ++ mrowB rl (a11 q) (a14 q) oc a13 a8 a9 tn a16 a17 dn a19 a20 a21 pn a23 q)) kn &&& a9 (10 * ro + of)) (k + 1))), (0, .ref mo), (2, .int (nI of)), (3, .int (nI ro)), (4, .long t)] := hl
            refine lv_iinc (v := nI (k + 1)) (lv' := [(7, .int (nI (k + 1))), (6, .int (msk (fun k => a4 k ≤ t ∨ ¬ a5 k = 0) (mk (hpk sn a25 a26 q (fun k => uB8 (a3 k) ++ mrowB rl (a11 q) (a14 q) oc a13 a8 a9 tn a16 a17 dn a19 a20 a21 pn a23 q)) kn &&& a9 (10 * ro + of)) (k + 1))), (0, .ref mo), (2, .int (nI of)), (3, .int (nI ro)), (4, .long t)]) hx hb dX8_hasQuorum_65 hl (k := 0) rfl ((nI_add k 1).trans (congrArg nI (by omega))) (by decide) rfl (fun ls hl => ?_)
            refine lv_goto (tgt := 22) hx hb dX8_hasQuorum_68 (by decide) ?_
            exact ih22  (k + 1) (by omega) (by omega) _ _ hP hD hS ls (lv_sub hl [0, 1, 2, 3, 4, 5] rfl)
          · skip
            refine lv_iload hx hb dX8_hasQuorum_54 (lv_at hl 1 rfl) ?_
            refine lv_iconst (v := 1) hx hb dX8_hasQuorum_56 (by decide) ?_
            refine lv_iload hx hb dX8_hasQuorum_57 (lv_at hl 0 rfl) ?_
            refine lv_ishl hx hb dX8_hasQuorum_59 ?_
            refine lv_iconst (v := (-1)) hx hb dX8_hasQuorum_60 (by decide) ?_
            refine lv_ixor hx hb dX8_hasQuorum_61 ?_
            refine lv_iand hx hb dX8_hasQuorum_62 ?_
            refine xtop (y := msk (fun k => a4 k ≤ t ∨ ¬ a5 k = 0) (mk (hpk sn a25 a26 q (fun k => uB8 (a3 k) ++ mrowB rl (a11 q) (a14 q) oc a13 a8 a9 tn a16 a17 dn a19 a20 a21 pn a23 q)) kn &&& a9 (10 * ro + of)) (k + 1)) (msk_t (q := (fun k => a4 k ≤ t ∨ ¬ a5 k = 0)) (Or.inr c16)) ?_
            refine lv_istore (lv' := [(6, .int (msk (fun k => a4 k ≤ t ∨ ¬ a5 k = 0) (mk (hpk sn a25 a26 q (fun k => uB8 (a3 k) ++ mrowB rl (a11 q) (a14 q) oc a13 a8 a9 tn a16 a17 dn a19 a20 a21 pn a23 q)) kn &&& a9 (10 * ro + of)) (k + 1))), (7, .int (nI k)), (0, .ref mo), (2, .int (nI of)), (3, .int (nI ro)), (4, .long t)]) hx hb dX8_hasQuorum_63 hl (by decide) rfl (fun ls hl => ?_)
            refine lv_iinc (v := nI (k + 1)) (lv' := [(7, .int (nI (k + 1))), (6, .int (msk (fun k => a4 k ≤ t ∨ ¬ a5 k = 0) (mk (hpk sn a25 a26 q (fun k => uB8 (a3 k) ++ mrowB rl (a11 q) (a14 q) oc a13 a8 a9 tn a16 a17 dn a19 a20 a21 pn a23 q)) kn &&& a9 (10 * ro + of)) (k + 1))), (0, .ref mo), (2, .int (nI of)), (3, .int (nI ro)), (4, .long t)]) hx hb dX8_hasQuorum_65 hl (k := 1) rfl ((nI_add k 1).trans (congrArg nI (by omega))) (by decide) rfl (fun ls hl => ?_)
            refine lv_goto (tgt := 22) hx hb dX8_hasQuorum_68 (by decide) ?_
            exact ih22  (k + 1) (by omega) (by omega) _ _ hP hD hS ls (lv_sub hl [0, 1, 2, 3, 4, 5] rfl)
  exact loop22 (kn + 1) 0 (by omega) (by omega) _ _ hP hD hS ls (lv_sub hl [0, 1, 2, 4, 5, 6] rfl)
