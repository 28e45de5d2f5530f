/-! THE LAW'S LOOP -/
set_option maxHeartbeats 4000000 in
set_option maxRecDepth 100000 in
theorem law_loop {p : Program} {l : Launch} {e : Env} {s : State} {m : MethodId} {below : List Frame} {meth : Method} {c : Code} {Q : State → Prop} {b L : Nat} {xs : Nat → Int32} {E : xE} {ax : Nat → Nat} {mo : Nat} {ad : Nat → Nat} {o : Nat} (htr : l.flags = pinnedFlags ++ [noTraceFlag]) {q : Nat} (hth : thE q (lA s) s s.heap) (G : LG p s m c b L xs E)
    (hend : ∀ (H : Heap) (locs : List Loc) (cells slots : Nat) (ls : Array Slot), va_S (lA s) s.heap H locs → cells ≤ 60000 → slots ≤ 600000 → W p l e room_1 s m #[Value.ref b] below meth c H locs cells slots Q (F0 m 1093 ls [])) :
    ∀ (d n : Nat), L + 5 ≤ 5 * n + 5 * d → 5 * n ≤ L + 4 → ∀ (H : Heap) (locs : List Loc) (cells slots : Nat) (w w' : va_W) (fo : Nat → Int64) (ls : Array Slot), LI E ax mo ad w w' → va_P E.1 vwCl (w ++ (w' ++ [(o, aJ E 1 fo)])) H → va_D (lA s) (w ++ (w' ++ [(o, aJ E 1 fo)])) → va_S (lA s) s.heap H locs → lv_has ls 7 [(0, .ref b), (1, .ref (ax 0)), (2, .ref mo), (3, .ref o), (4, .int (nI (5 * n)))] → cells ≤ 200 + 13 * n → slots ≤ 5000 + 96 * n → W p l e room_1 s m #[Value.ref b] below meth c H locs cells slots Q (F0 m 23 ls []) := by
  have G0 := G
  obtain ⟨hx, hb, hml, hown, hts, ⟨hX, hbl, hL⟩, hev, hz⟩ := G0
  have hbA : ¬ lA s b := Nat.not_le.mpr hbl
  intro d
  induction d with
  | zero => intro n h1 h2; exact absurd h1 (by omega)
  | succ d ih =>
    intro n h1 h2 H locs cells slots w w' fo ls hLI hP hD hS hl hc hs
    refine lv_iload hx hb dL_law_23 (lv_at hl 4 rfl) ?_
    refine lv_aload_n hx hb dL_law_25 rfl (lv_at hl 0 rfl) ?_
    refine va_slen hx hb hX hbl hbA hS dL_law_26 ?_
    refine lv_iconst (v := 5) hx hb dL_law_27 (by decide) ?_
    refine lv_isub hx hb dL_law_28 ?_
    refine lv_icmp_gt (tgt := 1093) hx hb dL_law_29 (by decide) (fun _ => hend H locs cells slots ls hS (by omega) (by omega)) (fun hle => ?_)
    have hi : 5 * n + 5 ≤ L := by
      rcases Nat.lt_or_ge L 5 with g | g
      · refine absurd ?_ hle
        have e1 : nI L - nI 5 < 0 := pk_sneg (by omega) g
        exact Int32.lt_of_lt_of_le (show (Int32.ofNat L - 5 : Int32) < 0 from e1) (nI_pos' (by omega))
      · rcases Nat.lt_or_ge (L - 5) (5 * n) with g2 | g2
        · refine absurd ?_ hle
          have e2 : (Int32.ofNat L - 5 : Int32) = nI (L - 5) := pk_sub (a := L) (b := 5) g
          rw [e2]
          exact nI_lt g2 (by omega)
        · omega
    refine lv_aload_n hx hb dL_law_32 rfl (lv_at hl 0 rfl) ?_
    refine lv_iload hx hb dL_law_33 (lv_at hl 4 rfl) ?_
    refine va_sld hx hb hX hbl hbA hS (vp_in_nI (n := 5 * n) (by omega) (by omega)) dL_law_35 ?_
    refine lv_bipush (v := 31) hx hb dL_law_36 (by decide) ?_
    refine lv_iand hx hb dL_law_38 ?_
    obtain ⟨t, ht, et⟩ := pk_andE (xs (nI (5 * n)).toNatClampNeg) (m := 31) 5 (by decide)
    refine xtop et ?_
    have kk : lKK p l e s m below meth c Q b E ax mo ad o (5 * n) cells slots := by
      intro H1 locs1 cells1 slots1 w1 w2 fo1 ls1 hLI1 hP1 hD1 hS1 hl1 hc1 hs1
      refine lv_iinc (k := 4) (v := nI (5 * (n + 1))) (lv' := [(4, .int (nI (5 * (n + 1)))), (0, .ref b), (1, .ref (ax 0)), (2, .ref mo), (3, .ref o)]) hx hb dL_law_1087 hl1 rfl (nI_add (5 * n) 5) (by decide) rfl (fun ls2 hl2 => ?_)
      refine lv_goto (tgt := 23) hx hb dL_law_1090 (by decide) ?_
      exact ih (n + 1) (by omega) (by omega) H1 locs1 cells1 slots1 w1 w2 fo1 ls2 hLI1 hP1 hD1 hS1 (lv_sub hl2 [1, 2, 3, 4, 0] rfl) (by omega) (by omega)
    have hc13 : cells + 13 ≤ 601024 := by omega
    have hs96 : slots + 96 ≤ 7293034 := by omega
    rcases Nat.lt_or_ge t 19 with g19 | g19
    · obtain ⟨kn, nn, ln, fs, fu, gi, ra, pr, ci, rev, sea, th, mn, dp, am, al, rfl, rfl, R0⟩ := hLI
      rcases (show t = 0 ∨ t = 1 ∨ t = 2 ∨ t = 3 ∨ t = 4 ∨ t = 5 ∨ t = 6 ∨ t = 7 ∨ t = 8 ∨ t = 9 ∨ t = 10 ∨ t = 11 ∨ t = 12 ∨ t = 13 ∨ t = 14 ∨ t = 15 ∨ t = 16 ∨ t = 17 ∨ t = 18 by omega) with rfl | rfl | rfl | rfl | rfl | rfl | rfl | rfl | rfl | rfl | rfl | rfl | rfl | rfl | rfl | rfl | rfl | rfl | rfl
      · refine lv_tableIn (tgt := 128) hx hb dL_law_39 (by decide) (by decide) rfl (by decide) ?_
        exact lc_key G hi R0 hP hD hS hl hc13 hs96 kk
      · refine lv_tableIn (tgt := 229) hx hb dL_law_39 (by decide) (by decide) rfl (by decide) ?_
        exact lc_quorum G hi R0 hP hD hS hl hc13 hs96 kk
      · refine lv_tableIn (tgt := 266) hx hb dL_law_39 (by decide) (by decide) rfl (by decide) ?_
        exact lc_holds G hi R0 hP hD hS hl hc13 hs96 kk
      · refine lv_tableIn (tgt := 331) hx hb dL_law_39 (by decide) (by decide) rfl (by decide) ?_
        exact lc_row G hi R0 hP hD hS hl hc13 hs96 kk
      · refine lv_tableIn (tgt := 412) hx hb dL_law_39 (by decide) (by decide) rfl (by decide) ?_
        exact lc_octet G hi R0 hP hD hS hl hc13 hs96 kk
      · refine lv_tableIn (tgt := 449) hx hb dL_law_39 (by decide) (by decide) rfl (by decide) ?_
        exact lc_tells G hi R0 hP hD hS hl hc13 hs96 kk
      · refine lv_tableIn (tgt := 498) hx hb dL_law_39 (by decide) (by decide) rfl (by decide) ?_
        exact lc_delegate G hi R0 hP hD hS hl hc13 hs96 kk
      · refine lv_tableIn (tgt := 575) hx hb dL_law_39 (by decide) (by decide) rfl (by decide) ?_
        exact lc_lists G hi R0 hP hD hS hl hc13 hs96 kk
      · refine lv_tableIn (tgt := 612) hx hb dL_law_39 (by decide) (by decide) rfl (by decide) ?_
        exact lc_sign G hi R0 hP hD hS hl hc13 hs96 kk
      · refine lv_tableIn (tgt := 650) hx hb dL_law_39 (by decide) (by decide) rfl (by decide) ?_
        exact lc_forge G hi R0 hP hD hS hl hc13 hs96 kk
      · refine lv_tableIn (tgt := 731) hx hb dL_law_39 (by decide) (by decide) rfl (by decide) ?_
        exact lc_verify G hi R0 hP hD hS hl hc13 hs96 kk
      · refine lv_tableIn (tgt := 800) hx hb dL_law_39 (by decide) (by decide) rfl (by decide) ?_
        exact lc_update G hi R0 hP hD hS hl hc13 hs96 kk
      · refine lv_tableIn (tgt := 869) hx hb dL_law_39 (by decide) (by decide) rfl (by decide) ?_
        exact lc_revoke G hi R0 hP hD hS hl hc13 hs96 kk
      · refine lv_tableIn (tgt := 894) hx hb dL_law_39 (by decide) (by decide) rfl (by decide) ?_
        exact lc_find G hi R0 hP hD hS hl hc13 hs96 kk
      · refine lv_tableIn (tgt := 919) hx hb dL_law_39 (by decide) (by decide) rfl (by decide) ?_
        exact lc_version G hi R0 hP hD hS hl hc13 hs96 kk
      · refine lv_tableIn (tgt := 944) hx hb dL_law_39 (by decide) (by decide) rfl (by decide) ?_
        exact lc_current G hi R0 hP hD hS hl hc13 hs96 kk
      · refine lv_tableIn (tgt := 969) hx hb dL_law_39 (by decide) (by decide) rfl (by decide) ?_
        exact lc_hash G hi R0 hP hD hS hl hc13 hs96 kk
      · refine lv_tableIn (tgt := 994) hx hb dL_law_39 (by decide) (by decide) rfl (by decide) ?_
        exact lc_digest htr hth G hi R0 hP hD hS hl hc13 hs96 kk
      · refine lv_tableIn (tgt := 1050) hx hb dL_law_39 (by decide) (by decide) rfl (by decide) ?_
        exact lc_about G hi R0 hP hD hS hl hc13 hs96 kk
    · refine lv_tableOut (tgt := 1087) hx hb dL_law_39 (Or.inr ?_) (by decide) ?_
      · rw [nI_toInt (by omega)]; omega
      · exact kk H locs cells slots w w' fo ls hLI hP hD hS hl (by omega) (by omega)
