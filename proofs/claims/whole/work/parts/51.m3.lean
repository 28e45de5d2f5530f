abbrev pX8_block (E : xE) (mo : Nat) (ad : Nat → Nat) (th : Int32) (kn : Nat) (rn : Nat) (mn : Nat) (dp : Nat) (a29 : Nat → Int32) (a33 : Nat → Int32) (a34 : Nat → Int32) (a35 : Nat → Int32) (a36 : Nat → Int32) (b : Nat) (w : va_W) : Prop := ∃ (g34 : Nat → Int32) (g35 : Nat → Int32) (g36 : Nat → Int32), w = [(ad 34, aI E 16 g34), (ad 35, aI E 8 g35), (ad 36, aI E 8 g36)] ∧ (∀ i, i < 8 → g36 i = blk a36 (mwd a29 b) i)
set_option maxHeartbeats 4000000 in
set_option maxRecDepth 100000 in
theorem kX8_block (l : Launch) (E : xE) (mo : Nat) (ad : Nat → Nat) (th : Int32) (kn : Nat) (rn : Nat) (mn : Nat) (dp : Nat) (a29 : Nat → Int32) (a33 : Nat → Int32) (a34 : Nat → Int32) (a35 : Nat → Int32) (a36 : Nat → Int32) (b : Nat) (hb9 : b + 64 ≤ 256) (hst : ∀ k, k < 64 → a33 k = sRC k) : KT l yX8_block wsX8_block 3 74 0 0 E [(ad 34, aI E 16 a34), (ad 35, aI E 8 a35), (ad 36, aI E 8 a36)] [(mo, .inr (9, mOb ad th (nI kn) (nI rn) (nI mn) (nI dp))), (ad 29, aI E 256 a29), (ad 33, aI E 64 a33)] [.ref mo, .int (nI b)] (QV E (pX8_block E mo ad th kn rn mn dp a29 a33 a34 a35 a36 b)) := by
  refine KT.start (cc := cX8_block) (maxL := 3) (ret := none) (by decide) rfl (Nat.le_of_ble_eq_true rfl) ?_
  intro p e s m below meth c A H hx hb hr hlocks hml hts hown hin hP hR0 hD hap hev hz hA hS ls hl
  have hl : lv_has ls 3 [(0, .ref mo), (1, .int (nI b))] := hl
  have hiX8 : ∀ w ∈ wsX80, w ∈ wsX8_block := fun _ h => List.mem_cons_of_mem _ (List.mem_append_right _ h)
  have hf174 := hts (.fieldLink RX8 174 "SignQuorumModel" "word" "[I") (by decide +kernel)
  have hf177 := hts (.fieldLink RX8 177 "SignQuorumModel" "state" "[I") (by decide +kernel)
  have hf180 := hts (.fieldLink RX8 180 "SignQuorumModel" "sum" "[I") (by decide +kernel)
  have hf87 := hts (.fieldLink RX8 87 "SignQuorumModel" "bytes" "[I") (by decide +kernel)
  refine lv_iconst (v := 0) hx hb dX8_block_0 (by decide) ?_
  refine lv_istore_n (lv' := [(2, .int 0), (0, .ref mo), (1, .int (nI b))]) hx hb dX8_block_1 rfl hl (by decide) rfl (fun ls hl => ?_)
  have loop2 : ∀ (fz : Nat) (i : Nat) (g34 : Nat → Int32), (i ≤ 16) → (∀ j, j < i → g34 j = mwd a29 b j) → (16 - i < fz) → ∀ (H : Heap) (locs : List Loc), va_P E.1 vwCl [(ad 34, aI E 16 g34), (ad 35, aI E 8 a35), (ad 36, aI E 8 a36)] H → va_D A [(ad 34, aI E 16 g34), (ad 35, aI E 8 a35), (ad 36, aI E 8 a36)] → va_S A s.heap H locs → ∀ ls : Array Slot, lv_has ls 3 [(2, .int (nI i)), (0, .ref mo), (1, .int (nI b))] → W p l e ({ frames := 3, cells := 0, slots := 0, locals := 74 } : Room) s m ([.ref mo, .int (nI b)] : List Value).toArray below meth c H locs 0 0 (MQ below (QV E (pX8_block E mo ad th kn rn mn dp a29 a33 a34 a35 a36 b) A) ([.ref mo, .int (nI b)] : List Value).toArray s 0 0 A) (F0 m 2 ls []) := by
    intro fz
    induction fz with
    | zero =>
      intro i g34 hi hg hfuel
      exact absurd hfuel (by omega)
    | succ fz ih =>
      intro i g34 hi hg hfuel H locs hP hD hS ls hl
      refine lv_iload_n hx hb dX8_block_2 rfl (lv_at hl 0 rfl) ?_
      refine lv_bipush (v := 16) hx hb dX8_block_3 (by decide) ?_
      refine lv_icmp_ge (tgt := 78) hx hb dX8_block_5 (by decide) (fun c1 => ?_) (fun c1 => ?_)
      · skip
        have kc1 : 16 ≤ i := (nI_leI (a := 16) (b := i) (by omega) (by omega)).mp c1
        refine lv_iconst (v := 0) hx hb dX8_block_78 (by decide) ?_
        refine lv_istore_n (lv' := [(2, .int 0), (0, .ref mo), (1, .int (nI b))]) hx hb dX8_block_79 rfl hl (by decide) rfl (fun ls hl => ?_)
        have loop80 : ∀ (fz : Nat) (i2 : Nat) (g35 : Nat → Int32), (i2 ≤ 8) → (∀ j, j < i2 → g35 j = a36 j) → (8 - i2 < fz) → ∀ (H : Heap) (locs : List Loc), va_P E.1 vwCl [(ad 34, aI E 16 g34), (ad 35, aI E 8 g35), (ad 36, aI E 8 a36)] H → va_D A [(ad 34, aI E 16 g34), (ad 35, aI E 8 g35), (ad 36, aI E 8 a36)] → va_S A s.heap H locs → ∀ ls : Array Slot, lv_has ls 3 [(2, .int (nI i2)), (0, .ref mo), (1, .int (nI b))] → W p l e ({ frames := 3, cells := 0, slots := 0, locals := 74 } : Room) s m ([.ref mo, .int (nI b)] : List Value).toArray below meth c H locs 0 0 (MQ below (QV E (pX8_block E mo ad th kn rn mn dp a29 a33 a34 a35 a36 b) A) ([.ref mo, .int (nI b)] : List Value).toArray s 0 0 A) (F0 m 80 ls []) := by
          intro fz
          induction fz with
          | zero =>
            intro i2 g35 hi2 hg2 hfuel
            exact absurd hfuel (by omega)
          | succ fz ih =>
            intro i2 g35 hi2 hg2 hfuel H locs hP hD hS ls hl
            refine lv_iload_n hx hb dX8_block_80 rfl (lv_at hl 0 rfl) ?_
            refine lv_bipush (v := 8) hx hb dX8_block_81 (by decide) ?_
            refine lv_icmp_ge (tgt := 104) hx hb dX8_block_83 (by decide) (fun c2 => ?_) (fun c2 => ?_)
            · skip
              have kc2 : 8 ≤ i2 := (nI_leI (a := 8) (b := i2) (by omega) (by omega)).mp c2
              refine lv_iconst (v := 0) hx hb dX8_block_104 (by decide) ?_
              refine lv_istore_n (lv' := [(2, .int 0), (0, .ref mo), (1, .int (nI b))]) hx hb dX8_block_105 rfl hl (by decide) rfl (fun ls hl => ?_)
              have loop106 : ∀ (fz : Nat) (t : Nat) (W3 : Nat → Int32) (S3 : Nat → Int32), (t ≤ 64) → (stI S3 W3 a36 (mwd a29 b) t) → (64 - t < fz) → ∀ (H : Heap) (locs : List Loc), va_P E.1 vwCl [(ad 34, aI E 16 W3), (ad 35, aI E 8 S3), (ad 36, aI E 8 a36)] H → va_D A [(ad 34, aI E 16 W3), (ad 35, aI E 8 S3), (ad 36, aI E 8 a36)] → va_S A s.heap H locs → ∀ ls : Array Slot, lv_has ls 3 [(2, .int (nI t)), (0, .ref mo), (1, .int (nI b))] → W p l e ({ frames := 3, cells := 0, slots := 0, locals := 74 } : Room) s m ([.ref mo, .int (nI b)] : List Value).toArray below meth c H locs 0 0 (MQ below (QV E (pX8_block E mo ad th kn rn mn dp a29 a33 a34 a35 a36 b) A) ([.ref mo, .int (nI b)] : List Value).toArray s 0 0 A) (F0 m 106 ls []) := by
                intro fz
                induction fz with
                | zero =>
                  intro t W3 S3 ht hI hfuel
                  exact absurd hfuel (by omega)
                | succ fz ih =>
                  intro t W3 S3 ht hI hfuel H locs hP hD hS ls hl
                  refine lv_iload_n hx hb dX8_block_106 rfl (lv_at hl 0 rfl) ?_
                  refine lv_bipush (v := 64) hx hb dX8_block_107 (by decide) ?_
                  refine lv_icmp_ge (tgt := 123) hx hb dX8_block_109 (by decide) (fun c3 => ?_) (fun c3 => ?_)
                  · skip
                    have kc3 : 64 ≤ t := (nI_leI (a := 64) (b := t) (by omega) (by omega)).mp c3
                    obtain rfl : t = 64 := by omega
                    have hS64 := stI_64 hI
                    refine lv_iconst (v := 0) hx hb dX8_block_123 (by decide) ?_
                    refine lv_istore_n (lv' := [(2, .int 0), (0, .ref mo), (1, .int (nI b))]) hx hb dX8_block_124 rfl hl (by decide) rfl (fun ls hl => ?_)
                    have loop125 : ∀ (fz : Nat) (i4 : Nat) (g36 : Nat → Int32), (i4 ≤ 8) → ((∀ j, j < i4 → g36 j = blk a36 (mwd a29 b) j) ∧ ∀ j, i4 ≤ j → g36 j = a36 j) → (8 - i4 < fz) → ∀ (H : Heap) (locs : List Loc), va_P E.1 vwCl [(ad 34, aI E 16 W3), (ad 35, aI E 8 S3), (ad 36, aI E 8 g36)] H → va_D A [(ad 34, aI E 16 W3), (ad 35, aI E 8 S3), (ad 36, aI E 8 g36)] → va_S A s.heap H locs → ∀ ls : Array Slot, lv_has ls 3 [(2, .int (nI i4)), (0, .ref mo), (1, .int (nI b))] → W p l e ({ frames := 3, cells := 0, slots := 0, locals := 74 } : Room) s m ([.ref mo, .int (nI b)] : List Value).toArray below meth c H locs 0 0 (MQ below (QV E (pX8_block E mo ad th kn rn mn dp a29 a33 a34 a35 a36 b) A) ([.ref mo, .int (nI b)] : List Value).toArray s 0 0 A) (F0 m 125 ls []) := by
                      intro fz
                      induction fz with
                      | zero =>
                        intro i4 g36 hi4 hg4 hfuel
                        exact absurd hfuel (by omega)
                      | succ fz ih =>
                        intro i4 g36 hi4 hg4 hfuel H locs hP hD hS ls hl
                        refine lv_iload_n hx hb dX8_block_125 rfl (lv_at hl 0 rfl) ?_
                        refine lv_bipush (v := 8) hx hb dX8_block_126 (by decide) ?_
                        refine lv_icmp_ge (tgt := 152) hx hb dX8_block_128 (by decide) (fun c4 => ?_) (fun c4 => ?_)
                        · skip
                          have kc4 : 8 ≤ i4 := (nI_leI (a := 8) (b := i4) (by omega) (by omega)).mp c4
                          refine xrv hx hb hr hlocks hP hD hS ⟨W3, S3, g36, rfl, ?_⟩ dX8_block_152
                          exact fun i hi => hg4.1 i (by omega)
                        · skip
                          have kc4 : ¬ 8 ≤ i4 := fun h9 => c4 ((nI_leI (a := 8) (b := i4) (by omega) (by omega)).mpr h9)
                          refine lv_aload_n hx hb dX8_block_131 rfl (lv_at hl 1 rfl) ?_
                          refine xgt TX8_36 (v := .ref (ad 36)) hx hb hts hiX8 hown hev.1 (xro hR0 hap hS) 0 rfl (by decide) hf180 rfl dX8_block_132 ?_
                          refine lv_iload_n hx hb dX8_block_135 rfl (lv_at hl 0 rfl) ?_
                          refine lv_dup2_11 hx hb dX8_block_136 rfl rfl ?_
                          refine xiald (k := (i4)) hx hb hev.1 hP 2 1 rfl rfl (by omega) (by decide) dX8_block_137 ?_
                          refine lv_aload_n hx hb dX8_block_138 rfl (lv_at hl 1 rfl) ?_
                          refine xgt TX8_35 (v := .ref (ad 35)) hx hb hts hiX8 hown hev.1 (xro hR0 hap hS) 0 rfl (by decide) hf177 rfl dX8_block_139 ?_
                          refine lv_iload_n hx hb dX8_block_142 rfl (lv_at hl 0 rfl) ?_
                          refine xiald (k := (i4)) hx hb hev.1 hP 1 1 rfl rfl (by omega) (by decide) dX8_block_143 ?_
                          refine lv_iadd hx hb dX8_block_144 ?_
                          refine xiast (k := i4) hx hb hev.1 hP hD hS 2 1 rfl rfl (by omega) (by decide) dX8_block_145 (fun H locs hP hD hS => ?_)
                          obtain ⟨f5, ef5⟩ : ∃ y9_ : Nat → Int32, y9_ = upd g36 i4 ((g36 i4) + (S3 i4)) := ⟨_, rfl⟩
                          rw [← ef5] at hP hD
                          have hP : va_P E.1 vwCl [(ad 34, aI E 16 W3), (ad 35, aI E 8 S3), (ad 36, aI E 8 f5)] H := hP
                          have hD : va_D A [(ad 34, aI E 16 W3), (ad 35, aI E 8 S3), (ad 36, aI E 8 f5)] := hD
                          refine lv_iinc (v := nI (i4 + 1)) (lv' := [(2, .int (nI (i4 + 1))), (0, .ref mo), (1, .int (nI b))]) hx hb dX8_block_146 hl (k := 0) rfl ((nI_add i4 1).trans (congrArg nI (by omega))) (by decide) rfl (fun ls hl => ?_)
                          refine lv_goto (tgt := 125) hx hb dX8_block_149 (by decide) ?_
                          exact ih  (i4 + 1) f5 (by omega) (⟨lt_s (fun j hj => by rw [ef5, upd_ne (by omega)]; exact hg4.1 j hj) (by rw [ef5, upd_self, hg4.2 i4 (by omega), hS64 i4 (by omega)]; rfl), fun j hj => by rw [ef5, upd_ne (by omega)]; exact hg4.2 j (by omega)⟩) (by omega) _ _ hP hD hS ls (lv_sub hl [0, 1, 2] rfl)
                    exact loop125 9 0 a36 (by omega) (⟨fun _ h9 => absurd h9 (by omega), fun _ _ => rfl⟩) (by omega) _ _ hP hD hS ls (lv_sub hl [0, 1, 2] rfl)
                  · skip
                    have kc3 : ¬ 64 ≤ t := fun h9 => c3 ((nI_leI (a := 64) (b := t) (by omega) (by omega)).mpr h9)
                    refine lv_aload_n hx hb dX8_block_112 rfl (lv_at hl 1 rfl) ?_
                    refine lv_iload_n hx hb dX8_block_113 rfl (lv_at hl 0 rfl) ?_
                    have hP := hP.sub (ws' := [(ad 34, aI E 16 W3), (ad 35, aI E 8 S3)] ++ [(ad 36, aI E 8 a36)]) [0, 1, 2] rfl
                    have hD := hD.sub (ws' := [(ad 34, aI E 16 W3), (ad 35, aI E 8 S3)] ++ [(ad 36, aI E 8 a36)]) [0, 1, 2] (by decide) rfl
                    refine xcv (va_runV (As := [.int (nI t)]) (rest := []) ⟨hx, hb, hml, hown, hts⟩ (kX8_step l E mo ad th kn rn mn dp a33 W3 S3 t (by first | assumption | omega) H.size) (cwV 1 hts gX8_block_X8_step rfl rfl rfl (by decide +kernel) ⟨Nat.le_of_ble_eq_true rfl, Nat.le_of_ble_eq_true rfl⟩) ⟨CP.blind, (va_recv hev.1 (xro hR0 hap hS) (ci := 9) (q0 := 0) rfl rfl), (xpre hev hz hA hP hD hS hR0 hap [1, 3] rfl)⟩ rfl rfl hl.1 rfl (lv_room (Nat.le_of_ble_eq_true rfl)) dX8_block_114 ⟨Nat.le_of_ble_eq_true rfl, Nat.le_of_ble_eq_true rfl⟩) hP hD hS hA (fun w7 H locs h8 hP hD hS => ?_)
                    obtain ⟨g349, g3510, rfl, h8⟩ := h8
                    try dsimp only at h8
                    have hP : va_P E.1 vwCl [(ad 34, aI E 16 g349), (ad 35, aI E 8 g3510), (ad 36, aI E 8 a36)] H := hP
                    have hD : va_D A [(ad 34, aI E 16 g349), (ad 35, aI E 8 g3510), (ad 36, aI E 8 a36)] := hD
                    refine lv_iinc (v := nI (t + 1)) (lv' := [(2, .int (nI (t + 1))), (0, .ref mo), (1, .int (nI b))]) hx hb dX8_block_117 hl (k := 0) rfl ((nI_add t 1).trans (congrArg nI (by omega))) (by decide) rfl (fun ls hl => ?_)
                    refine lv_goto (tgt := 106) hx hb dX8_block_120 (by decide) ?_
                    exact ih  (t + 1) g349 g3510 (by omega) (stI_step (by omega) hI (hst t (by omega)) h8.1 h8.2) (by omega) _ _ hP hD hS ls (lv_sub hl [0, 1, 2] rfl)
              exact loop106 65 0 g34 g35 (by omega) (stI_0 (fun j hj => hg2 j (by omega)) (fun k hk => hg k (by omega))) (by omega) _ _ hP hD hS ls (lv_sub hl [0, 1, 2] rfl)
            · skip
              have kc2 : ¬ 8 ≤ i2 := fun h9 => c2 ((nI_leI (a := 8) (b := i2) (by omega) (by omega)).mpr h9)
              refine lv_aload_n hx hb dX8_block_86 rfl (lv_at hl 1 rfl) ?_
              refine xgt TX8_35 (v := .ref (ad 35)) hx hb hts hiX8 hown hev.1 (xro hR0 hap hS) 0 rfl (by decide) hf177 rfl dX8_block_87 ?_
              refine lv_iload_n hx hb dX8_block_90 rfl (lv_at hl 0 rfl) ?_
              refine lv_aload_n hx hb dX8_block_91 rfl (lv_at hl 1 rfl) ?_
              refine xgt TX8_36 (v := .ref (ad 36)) hx hb hts hiX8 hown hev.1 (xro hR0 hap hS) 0 rfl (by decide) hf180 rfl dX8_block_92 ?_
              refine lv_iload_n hx hb dX8_block_95 rfl (lv_at hl 0 rfl) ?_
              refine xiald (k := (i2)) hx hb hev.1 hP 2 1 rfl rfl (by omega) (by decide) dX8_block_96 ?_
              refine xiast (k := i2) hx hb hev.1 hP hD hS 1 1 rfl rfl (by omega) (by decide) dX8_block_97 (fun H locs hP hD hS => ?_)
              obtain ⟨f11, ef11⟩ : ∃ y9_ : Nat → Int32, y9_ = upd g35 i2 (a36 i2) := ⟨_, rfl⟩
              rw [← ef11] at hP hD
              have hP : va_P E.1 vwCl [(ad 34, aI E 16 g34), (ad 35, aI E 8 f11), (ad 36, aI E 8 a36)] H := hP
              have hD : va_D A [(ad 34, aI E 16 g34), (ad 35, aI E 8 f11), (ad 36, aI E 8 a36)] := hD
              refine lv_iinc (v := nI (i2 + 1)) (lv' := [(2, .int (nI (i2 + 1))), (0, .ref mo), (1, .int (nI b))]) hx hb dX8_block_98 hl (k := 0) rfl ((nI_add i2 1).trans (congrArg nI (by omega))) (by decide) rfl (fun ls hl => ?_)
              refine lv_goto (tgt := 80) hx hb dX8_block_101 (by decide) ?_
              exact ih  (i2 + 1) f11 (by omega) (lt_s (fun j hj => by rw [ef11, upd_ne (by omega)]; exact hg2 j hj) (by rw [ef11, upd_self])) (by omega) _ _ hP hD hS ls (lv_sub hl [0, 1, 2] rfl)
        exact loop80 9 0 a35 (by omega) (fun _ h9 => absurd h9 (by omega)) (by omega) _ _ hP hD hS ls (lv_sub hl [0, 1, 2] rfl)
      · skip
        have kc1 : ¬ 16 ≤ i := fun h9 => c1 ((nI_leI (a := 16) (b := i) (by omega) (by omega)).mpr h9)
        refine lv_aload_n hx hb dX8_block_8 rfl (lv_at hl 1 rfl) ?_
        refine xgt TX8_34 (v := .ref (ad 34)) hx hb hts hiX8 hown hev.1 (xro hR0 hap hS) 0 rfl (by decide) hf174 rfl dX8_block_9 ?_
        refine lv_iload_n hx hb dX8_block_12 rfl (lv_at hl 0 rfl) ?_
        refine lv_aload_n hx hb dX8_block_13 rfl (lv_at hl 1 rfl) ?_
        refine xgt TX8_29 (v := .ref (ad 29)) hx hb hts hiX8 hown hev.1 (xro hR0 hap hS) 0 rfl (by decide) hf87 rfl dX8_block_14 ?_
        refine lv_iload_n hx hb dX8_block_17 rfl (lv_at hl 2 rfl) ?_
        refine lv_iconst (v := 4) hx hb dX8_block_18 (by decide) ?_
        refine lv_iload_n hx hb dX8_block_19 rfl (lv_at hl 0 rfl) ?_
        refine lv_imul hx hb dX8_block_20 ?_
        refine xtop (y := nI (4 * i)) (pk_mul _ _) ?_
        refine lv_iadd hx hb dX8_block_21 ?_
        refine xtop (y := nI (b + (4 * i))) ((nI_add b (4 * i)).trans (congrArg nI (by omega))) ?_
        refine xiald (k := (b + (4 * i))) hx hb hev.1 (xro hR0 hap hS) 1 1 rfl rfl (by omega) (by decide) dX8_block_22 ?_
        refine lv_bipush (v := 24) hx hb dX8_block_23 (by decide) ?_
        refine lv_ishl hx hb dX8_block_25 ?_
        refine lv_aload_n hx hb dX8_block_26 rfl (lv_at hl 1 rfl) ?_
        refine xgt TX8_29 (v := .ref (ad 29)) hx hb hts hiX8 hown hev.1 (xro hR0 hap hS) 0 rfl (by decide) hf87 rfl dX8_block_27 ?_
        refine lv_iload_n hx hb dX8_block_30 rfl (lv_at hl 2 rfl) ?_
        refine lv_iconst (v := 4) hx hb dX8_block_31 (by decide) ?_
        refine lv_iload_n hx hb dX8_block_32 rfl (lv_at hl 0 rfl) ?_
        refine lv_imul hx hb dX8_block_33 ?_
        refine xtop (y := nI (4 * i)) (pk_mul _ _) ?_
        refine lv_iadd hx hb dX8_block_34 ?_
        refine xtop (y := nI (b + (4 * i))) ((nI_add b (4 * i)).trans (congrArg nI (by omega))) ?_
        refine lv_iconst (v := 1) hx hb dX8_block_35 (by decide) ?_
        refine lv_iadd hx hb dX8_block_36 ?_
        refine xtop (y := nI (b + (4 * i) + 1)) ((nI_add (b + (4 * i)) 1).trans (congrArg nI (by omega))) ?_
        refine xiald (k := (b + (4 * i) + 1)) hx hb hev.1 (xro hR0 hap hS) 1 1 rfl rfl (by omega) (by decide) dX8_block_37 ?_
        refine lv_bipush (v := 16) hx hb dX8_block_38 (by decide) ?_
        refine lv_ishl hx hb dX8_block_40 ?_
        refine lv_ior hx hb dX8_block_41 ?_
        refine lv_aload_n hx hb dX8_block_42 rfl (lv_at hl 1 rfl) ?_
        refine xgt TX8_29 (v := .ref (ad 29)) hx hb hts hiX8 hown hev.1 (xro hR0 hap hS) 0 rfl (by decide) hf87 rfl dX8_block_43 ?_
        refine lv_iload_n hx hb dX8_block_46 rfl (lv_at hl 2 rfl) ?_
        refine lv_iconst (v := 4) hx hb dX8_block_47 (by decide) ?_
        refine lv_iload_n hx hb dX8_block_48 rfl (lv_at hl 0 rfl) ?_
        refine lv_imul hx hb dX8_block_49 ?_
        refine xtop (y := nI (4 * i)) (pk_mul _ _) ?_
        refine lv_iadd hx hb dX8_block_50 ?_
        refine xtop (y := nI (b + (4 * i))) ((nI_add b (4 * i)).trans (congrArg nI (by omega))) ?_
        refine lv_iconst (v := 2) hx hb dX8_block_51 (by decide) ?_
        refine lv_iadd hx hb dX8_block_52 ?_
        refine xtop (y := nI (b + (4 * i) + 2)) ((nI_add (b + (4 * i)) 2).trans (congrArg nI (by omega))) ?_
        refine xiald (k := (b + (4 * i) + 2)) hx hb hev.1 (xro hR0 hap hS) 1 1 rfl rfl (by omega) (by decide) dX8_block_53 ?_
        refine lv_bipush (v := 8) hx hb dX8_block_54 (by decide) ?_
        refine lv_ishl hx hb dX8_block_56 ?_
        refine lv_ior hx hb dX8_block_57 ?_
        refine lv_topi (fun v12 ev12 => ?_)
        refine lv_aload_n hx hb dX8_block_58 rfl (lv_at hl 1 rfl) ?_
        refine xgt TX8_29 (v := .ref (ad 29)) hx hb hts hiX8 hown hev.1 (xro hR0 hap hS) 0 rfl (by decide) hf87 rfl dX8_block_59 ?_
        refine lv_iload_n hx hb dX8_block_62 rfl (lv_at hl 2 rfl) ?_
        refine lv_iconst (v := 4) hx hb dX8_block_63 (by decide) ?_
        refine lv_iload_n hx hb dX8_block_64 rfl (lv_at hl 0 rfl) ?_
        refine lv_imul hx hb dX8_block_65 ?_
        refine xtop (y := nI (4 * i)) (pk_mul _ _) ?_
        refine lv_iadd hx hb dX8_block_66 ?_
        refine xtop (y := nI (b + (4 * i))) ((nI_add b (4 * i)).trans (congrArg nI (by omega))) ?_
        refine lv_iconst (v := 3) hx hb dX8_block_67 (by decide) ?_
        refine lv_iadd hx hb dX8_block_68 ?_
        refine xtop (y := nI (b + (4 * i) + 3)) ((nI_add (b + (4 * i)) 3).trans (congrArg nI (by omega))) ?_
        refine xiald (k := (b + (4 * i) + 3)) hx hb hev.1 (xro hR0 hap hS) 1 1 rfl rfl (by omega) (by decide) dX8_block_69 ?_
        refine lv_ior hx hb dX8_block_70 ?_
        refine xiast (k := i) hx hb hev.1 hP hD hS 0 1 rfl rfl (by omega) (by decide) dX8_block_71 (fun H locs hP hD hS => ?_)
        obtain ⟨f13, ef13⟩ : ∃ y9_ : Nat → Int32, y9_ = upd g34 i (v12 ||| (a29 (b + (4 * i) + 3))) := ⟨_, rfl⟩
        rw [← ef13] at hP hD
        have hP : va_P E.1 vwCl [(ad 34, aI E 16 f13), (ad 35, aI E 8 a35), (ad 36, aI E 8 a36)] H := hP
        have hD : va_D A [(ad 34, aI E 16 f13), (ad 35, aI E 8 a35), (ad 36, aI E 8 a36)] := hD
        refine lv_iinc (v := nI (i + 1)) (lv' := [(2, .int (nI (i + 1))), (0, .ref mo), (1, .int (nI b))]) hx hb dX8_block_72 hl (k := 0) rfl ((nI_add i 1).trans (congrArg nI (by omega))) (by decide) rfl (fun ls hl => ?_)
        refine lv_goto (tgt := 2) hx hb dX8_block_75 (by decide) ?_
        exact ih  (i + 1) f13 (by omega) (lt_s (fun j hj => by rw [ef13, upd_ne (by omega)]; exact hg j hj) (by rw [ef13, upd_self]; subst_vars; rfl)) (by omega) _ _ hP hD hS ls (lv_sub hl [0, 1, 2] rfl)
  exact loop2 17 0 a34 (by omega) (fun _ h9 => absurd h9 (by omega)) (by omega) _ _ hP hD hS ls (lv_sub hl [0, 1, 2] rfl)

