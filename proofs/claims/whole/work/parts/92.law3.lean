/-! THE LAW: its cases -/
set_option maxHeartbeats 4000000 in
set_option maxRecDepth 100000 in
theorem lc_revoke {p : Program} {l : Launch} {e : Env} {s : State} {m : MethodId} {below : List Frame} {meth : Method} {c : Code} {H : Heap} {locs : List Loc} {cells slots : Nat} {Q : State → Prop} {b L : Nat} {xs : Nat → Int32} {E : xE} {ls : Array Slot} {ax : Nat → Nat} {mo : Nat} {ad : Nat → Nat} {o i : Nat} {kn nn ln : Nat} {fs fu : Nat → Int64} {gi : Nat → Nat → Int32} {ra : Nat → Nat} {pr : Nat → RowP} {ci : Nat → Option Nat} {rev sea : Int32} {th : Int32} {mn dp : Nat} {am : Nat → Nat → Int32} {al : Nat → Nat → Int64} {fo : Nat → Int64} (G : LG p s m c b L xs E) (hi : i + 5 ≤ L) (R0 : Rl kn nn fs fu (gi 0) (gi 1) pr ci rev (gi 5) am al) (hP : va_P E.1 vwCl (CW E ax kn nn ln fs fu gi ra pr ci rev sea ++ (MW E mo ad th kn nn mn dp am al ++ [(o, aJ E 1 fo)])) H) (hD : va_D (lA s) (CW E ax kn nn ln fs fu gi ra pr ci rev sea ++ (MW E mo ad th kn nn mn dp am al ++ [(o, aJ E 1 fo)]))) (hS : va_S (lA s) s.heap H locs) (hl : lv_has ls 7 [(0, .ref b), (1, .ref (ax 0)), (2, .ref mo), (3, .ref o), (4, .int (nI i))]) (hc : cells + 13 ≤ 601024) (hs : slots + 96 ≤ 7293034) (kk : lKK p l e s m below meth c Q b E ax mo ad o i cells slots) : W p l e room_1 s m #[Value.ref b] below meth c H locs cells slots Q (F0 m 869 ls []) := by
  have G0 := G
  obtain ⟨hx, hb, hml, hown, hts, -, hev, hz⟩ := G0
  have htl : ∀ w ∈ wsL_law, w.before #[Value.ref b] s = true := fun w hw => hts w (wsL_law_all w hw)
  have hA : ∀ q : Nat, s.heap.size ≤ q → lA s q := fun q hq => hq
  have hN : va_P E.1 vwCl ([] : va_W) s.heap := va_P.of (fun q hq => by cases hq)
  have hN2 : ∀ q ∈ ([] : va_W), ¬ lA s q.1 := fun q hq => by cases hq
  refine lv_aload_n hx hb dL_law_869 rfl (lv_at hl 1 rfl) ?_
  refine la_i G hS hl (lv_at hl 4 rfl) (k := 1) rfl (by omega) dL_law_870 dL_law_871 dL_law_873 dL_law_874 dL_law_875 ?_
  refine xci (va_runV (As := [.int (xs (i + 1))]) (rest := []) ⟨hx, hb, hml, hown, htl⟩ (cw_revoke l E ax kn nn ln fs fu gi ra pr ci rev sea (xs (i + 1)) R0.1.1 H.size) (cwV 1 htl gL_law_X7_revoke rfl rfl rfl (by decide +kernel) ⟨by decide, by decide⟩) ⟨CP.blind, va_recv hev.1 hP (ci := 8) (q0 := 0) rfl rfl, xpre hev hz hA hP hD hS hN hN2 [] rfl⟩ rfl rfl hl.1 rfl (lv_room (Nat.le_of_ble_eq_true rfl)) dL_law_876 ⟨(by show cells + 0 ≤ 601024; omega), (by show slots + 0 ≤ 7293034; omega)⟩) hP hD hS hA (fun r w H locs hp hP hD hS => ?_)
  have hP := hP.perm pca
  have hD := hD.perm pca
  refine lv_aload_n hx hb dL_law_879 rfl (lv_at hl 2 rfl) ?_
  refine la_i G hS hl (lv_at hl 4 rfl) (k := 1) rfl (by omega) dL_law_880 dL_law_881 dL_law_883 dL_law_884 dL_law_885 ?_
  refine xci (va_runV (As := [.int (xs (i + 1))]) (rest := [.int r]) ⟨hx, hb, hml, hown, htl⟩ (mw_revoke l E mo ad th kn nn mn dp am al pr ci (xs (i + 1)) R0.1.1 H.size) (cwV 1 htl gL_law_X8_revoke rfl rfl rfl (by decide +kernel) ⟨by decide, by decide⟩) ⟨CP.blind, va_recv hev.1 hP (ci := 9) (q0 := 0) rfl rfl, xpre hev hz hA hP hD hS hN hN2 [] rfl⟩ rfl rfl hl.1 rfl (lv_room (Nat.le_of_ble_eq_true rfl)) dL_law_886 ⟨(by show cells + 0 + 0 ≤ 601024; omega), (by show slots + 0 + 0 ≤ 7293034; omega)⟩) hP hD hS hA (fun r2 w2 H locs hm hP hD hS => ?_)
  obtain ⟨rfl, hLI⟩ := bd_revoke R0 hp hm
  have hP := hP.perm pca
  have hD := hD.perm pca
  refine lv_icmp_eq (tgt := 1087) hx hb dL_law_889 (by decide) (fun _ => kk H locs _ _ w w2 fo ls hLI hP hD hS hl (by omega) (by omega)) (fun hne => absurd rfl hne)
set_option maxHeartbeats 4000000 in
set_option maxRecDepth 100000 in
theorem lc_find {p : Program} {l : Launch} {e : Env} {s : State} {m : MethodId} {below : List Frame} {meth : Method} {c : Code} {H : Heap} {locs : List Loc} {cells slots : Nat} {Q : State → Prop} {b L : Nat} {xs : Nat → Int32} {E : xE} {ls : Array Slot} {ax : Nat → Nat} {mo : Nat} {ad : Nat → Nat} {o i : Nat} {kn nn ln : Nat} {fs fu : Nat → Int64} {gi : Nat → Nat → Int32} {ra : Nat → Nat} {pr : Nat → RowP} {ci : Nat → Option Nat} {rev sea : Int32} {th : Int32} {mn dp : Nat} {am : Nat → Nat → Int32} {al : Nat → Nat → Int64} {fo : Nat → Int64} (G : LG p s m c b L xs E) (hi : i + 5 ≤ L) (R0 : Rl kn nn fs fu (gi 0) (gi 1) pr ci rev (gi 5) am al) (hP : va_P E.1 vwCl (CW E ax kn nn ln fs fu gi ra pr ci rev sea ++ (MW E mo ad th kn nn mn dp am al ++ [(o, aJ E 1 fo)])) H) (hD : va_D (lA s) (CW E ax kn nn ln fs fu gi ra pr ci rev sea ++ (MW E mo ad th kn nn mn dp am al ++ [(o, aJ E 1 fo)]))) (hS : va_S (lA s) s.heap H locs) (hl : lv_has ls 7 [(0, .ref b), (1, .ref (ax 0)), (2, .ref mo), (3, .ref o), (4, .int (nI i))]) (hc : cells + 13 ≤ 601024) (hs : slots + 96 ≤ 7293034) (kk : lKK p l e s m below meth c Q b E ax mo ad o i cells slots) : W p l e room_1 s m #[Value.ref b] below meth c H locs cells slots Q (F0 m 894 ls []) := by
  have G0 := G
  obtain ⟨hx, hb, hml, hown, hts, -, hev, hz⟩ := G0
  have htl : ∀ w ∈ wsL_law, w.before #[Value.ref b] s = true := fun w hw => hts w (wsL_law_all w hw)
  have hA : ∀ q : Nat, s.heap.size ≤ q → lA s q := fun q hq => hq
  have hN : va_P E.1 vwCl ([] : va_W) s.heap := va_P.of (fun q hq => by cases hq)
  have hN2 : ∀ q ∈ ([] : va_W), ¬ lA s q.1 := fun q hq => by cases hq
  refine lv_aload_n hx hb dL_law_894 rfl (lv_at hl 1 rfl) ?_
  refine la_i G hS hl (lv_at hl 4 rfl) (k := 1) rfl (by omega) dL_law_895 dL_law_896 dL_law_898 dL_law_899 dL_law_900 ?_
  refine xci (va_runV (As := [.int (xs (i + 1))]) (rest := []) ⟨hx, hb, hml, hown, htl⟩ (cw_find l E ax kn nn ln fs fu gi ra pr ci rev sea (xs (i + 1)) (fun i hi => (R0.2.2.2.1 i hi).1.1) (fun j i h => (R0.2.2.2.2.2.1 j i h).1) (to_c R0) H.size) (cwV 1 htl gL_law_X7_find rfl rfl rfl (by decide +kernel) ⟨by decide, by decide⟩) ⟨CP.blind, va_recv hev.1 hP (ci := 8) (q0 := 0) rfl rfl, xpre hev hz hA hP hD hS hN hN2 [] rfl⟩ rfl rfl hl.1 rfl (lv_room (Nat.le_of_ble_eq_true rfl)) dL_law_901 ⟨(by show cells + 0 ≤ 601024; omega), (by show slots + 0 ≤ 7293034; omega)⟩) hP hD hS hA (fun r w H locs hp hP hD hS => ?_)
  have hP := hP.perm pca
  have hD := hD.perm pca
  refine lv_aload_n hx hb dL_law_904 rfl (lv_at hl 2 rfl) ?_
  refine la_i G hS hl (lv_at hl 4 rfl) (k := 1) rfl (by omega) dL_law_905 dL_law_906 dL_law_908 dL_law_909 dL_law_910 ?_
  refine xci (va_runV (As := [.int (xs (i + 1))]) (rest := [.int r]) ⟨hx, hb, hml, hown, htl⟩ (mw_find l E mo ad th kn nn mn dp am al pr ci (xs (i + 1)) (Rl.mok R0) R0.2.2.2.2.1 (fun j i h => (R0.2.2.2.2.2.1 j i h).1) R0.1.2 (toM_c R0) H.size) (cwV 1 htl gL_law_X8_find rfl rfl rfl (by decide +kernel) ⟨by decide, by decide⟩) ⟨CP.blind, va_recv hev.1 hP (ci := 9) (q0 := 0) rfl rfl, xpre hev hz hA hP hD hS hN hN2 [] rfl⟩ rfl rfl hl.1 rfl (lv_room (Nat.le_of_ble_eq_true rfl)) dL_law_911 ⟨(by show cells + 0 + 0 ≤ 601024; omega), (by show slots + 0 + 0 ≤ 7293034; omega)⟩) hP hD hS hA (fun r2 w2 H locs hm hP hD hS => ?_)
  obtain ⟨rfl, hLI⟩ := bd_find R0 hp hm
  have hP := hP.perm pca
  have hD := hD.perm pca
  refine lv_icmp_eq (tgt := 1087) hx hb dL_law_914 (by decide) (fun _ => kk H locs _ _ w w2 fo ls hLI hP hD hS hl (by omega) (by omega)) (fun hne => absurd rfl hne)
set_option maxHeartbeats 4000000 in
set_option maxRecDepth 100000 in
theorem lc_version {p : Program} {l : Launch} {e : Env} {s : State} {m : MethodId} {below : List Frame} {meth : Method} {c : Code} {H : Heap} {locs : List Loc} {cells slots : Nat} {Q : State → Prop} {b L : Nat} {xs : Nat → Int32} {E : xE} {ls : Array Slot} {ax : Nat → Nat} {mo : Nat} {ad : Nat → Nat} {o i : Nat} {kn nn ln : Nat} {fs fu : Nat → Int64} {gi : Nat → Nat → Int32} {ra : Nat → Nat} {pr : Nat → RowP} {ci : Nat → Option Nat} {rev sea : Int32} {th : Int32} {mn dp : Nat} {am : Nat → Nat → Int32} {al : Nat → Nat → Int64} {fo : Nat → Int64} (G : LG p s m c b L xs E) (hi : i + 5 ≤ L) (R0 : Rl kn nn fs fu (gi 0) (gi 1) pr ci rev (gi 5) am al) (hP : va_P E.1 vwCl (CW E ax kn nn ln fs fu gi ra pr ci rev sea ++ (MW E mo ad th kn nn mn dp am al ++ [(o, aJ E 1 fo)])) H) (hD : va_D (lA s) (CW E ax kn nn ln fs fu gi ra pr ci rev sea ++ (MW E mo ad th kn nn mn dp am al ++ [(o, aJ E 1 fo)]))) (hS : va_S (lA s) s.heap H locs) (hl : lv_has ls 7 [(0, .ref b), (1, .ref (ax 0)), (2, .ref mo), (3, .ref o), (4, .int (nI i))]) (hc : cells + 13 ≤ 601024) (hs : slots + 96 ≤ 7293034) (kk : lKK p l e s m below meth c Q b E ax mo ad o i cells slots) : W p l e room_1 s m #[Value.ref b] below meth c H locs cells slots Q (F0 m 919 ls []) := by
  have G0 := G
  obtain ⟨hx, hb, hml, hown, hts, -, hev, hz⟩ := G0
  have htl : ∀ w ∈ wsL_law, w.before #[Value.ref b] s = true := fun w hw => hts w (wsL_law_all w hw)
  have hA : ∀ q : Nat, s.heap.size ≤ q → lA s q := fun q hq => hq
  have hN : va_P E.1 vwCl ([] : va_W) s.heap := va_P.of (fun q hq => by cases hq)
  have hN2 : ∀ q ∈ ([] : va_W), ¬ lA s q.1 := fun q hq => by cases hq
  refine lv_aload_n hx hb dL_law_919 rfl (lv_at hl 1 rfl) ?_
  refine la_i G hS hl (lv_at hl 4 rfl) (k := 1) rfl (by omega) dL_law_920 dL_law_921 dL_law_923 dL_law_924 dL_law_925 ?_
  refine xci (va_runV (As := [.int (xs (i + 1))]) (rest := []) ⟨hx, hb, hml, hown, htl⟩ (cw_version l E ax kn nn ln fs fu gi ra pr ci rev sea (xs (i + 1)) (fun i hi => (R0.2.2.2.1 i hi).1.1) (fun j i h => (R0.2.2.2.2.2.1 j i h).1) H.size) (cwV 1 htl gL_law_X7_version rfl rfl rfl (by decide +kernel) ⟨by decide, by decide⟩) ⟨CP.blind, va_recv hev.1 hP (ci := 8) (q0 := 0) rfl rfl, xpre hev hz hA hP hD hS hN hN2 [] rfl⟩ rfl rfl hl.1 rfl (lv_room (Nat.le_of_ble_eq_true rfl)) dL_law_926 ⟨(by show cells + 0 ≤ 601024; omega), (by show slots + 0 ≤ 7293034; omega)⟩) hP hD hS hA (fun r w H locs hp hP hD hS => ?_)
  have hP := hP.perm pca
  have hD := hD.perm pca
  refine lv_aload_n hx hb dL_law_929 rfl (lv_at hl 2 rfl) ?_
  refine la_i G hS hl (lv_at hl 4 rfl) (k := 1) rfl (by omega) dL_law_930 dL_law_931 dL_law_933 dL_law_934 dL_law_935 ?_
  refine xci (va_runV (As := [.int (xs (i + 1))]) (rest := [.int r]) ⟨hx, hb, hml, hown, htl⟩ (mw_version l E mo ad th kn nn mn dp am al pr ci (xs (i + 1)) (Rl.mok R0) R0.2.2.2.2.1 (fun j i h => (R0.2.2.2.2.2.1 j i h).1) R0.1.2 H.size) (cwV 1 htl gL_law_X8_version rfl rfl rfl (by decide +kernel) ⟨by decide, by decide⟩) ⟨CP.blind, va_recv hev.1 hP (ci := 9) (q0 := 0) rfl rfl, xpre hev hz hA hP hD hS hN hN2 [] rfl⟩ rfl rfl hl.1 rfl (lv_room (Nat.le_of_ble_eq_true rfl)) dL_law_936 ⟨(by show cells + 0 + 0 ≤ 601024; omega), (by show slots + 0 + 0 ≤ 7293034; omega)⟩) hP hD hS hA (fun r2 w2 H locs hm hP hD hS => ?_)
  obtain ⟨rfl, hLI⟩ := bd_version R0 hp hm
  have hP := hP.perm pca
  have hD := hD.perm pca
  refine lv_icmp_eq (tgt := 1087) hx hb dL_law_939 (by decide) (fun _ => kk H locs _ _ w w2 fo ls hLI hP hD hS hl (by omega) (by omega)) (fun hne => absurd rfl hne)
set_option maxHeartbeats 4000000 in
set_option maxRecDepth 100000 in
theorem lc_current {p : Program} {l : Launch} {e : Env} {s : State} {m : MethodId} {below : List Frame} {meth : Method} {c : Code} {H : Heap} {locs : List Loc} {cells slots : Nat} {Q : State → Prop} {b L : Nat} {xs : Nat → Int32} {E : xE} {ls : Array Slot} {ax : Nat → Nat} {mo : Nat} {ad : Nat → Nat} {o i : Nat} {kn nn ln : Nat} {fs fu : Nat → Int64} {gi : Nat → Nat → Int32} {ra : Nat → Nat} {pr : Nat → RowP} {ci : Nat → Option Nat} {rev sea : Int32} {th : Int32} {mn dp : Nat} {am : Nat → Nat → Int32} {al : Nat → Nat → Int64} {fo : Nat → Int64} (G : LG p s m c b L xs E) (hi : i + 5 ≤ L) (R0 : Rl kn nn fs fu (gi 0) (gi 1) pr ci rev (gi 5) am al) (hP : va_P E.1 vwCl (CW E ax kn nn ln fs fu gi ra pr ci rev sea ++ (MW E mo ad th kn nn mn dp am al ++ [(o, aJ E 1 fo)])) H) (hD : va_D (lA s) (CW E ax kn nn ln fs fu gi ra pr ci rev sea ++ (MW E mo ad th kn nn mn dp am al ++ [(o, aJ E 1 fo)]))) (hS : va_S (lA s) s.heap H locs) (hl : lv_has ls 7 [(0, .ref b), (1, .ref (ax 0)), (2, .ref mo), (3, .ref o), (4, .int (nI i))]) (hc : cells + 13 ≤ 601024) (hs : slots + 96 ≤ 7293034) (kk : lKK p l e s m below meth c Q b E ax mo ad o i cells slots) : W p l e room_1 s m #[Value.ref b] below meth c H locs cells slots Q (F0 m 944 ls []) := by
  have G0 := G
  obtain ⟨hx, hb, hml, hown, hts, -, hev, hz⟩ := G0
  have htl : ∀ w ∈ wsL_law, w.before #[Value.ref b] s = true := fun w hw => hts w (wsL_law_all w hw)
  have hA : ∀ q : Nat, s.heap.size ≤ q → lA s q := fun q hq => hq
  have hN : va_P E.1 vwCl ([] : va_W) s.heap := va_P.of (fun q hq => by cases hq)
  have hN2 : ∀ q ∈ ([] : va_W), ¬ lA s q.1 := fun q hq => by cases hq
  refine lv_aload_n hx hb dL_law_944 rfl (lv_at hl 1 rfl) ?_
  refine la_i G hS hl (lv_at hl 4 rfl) (k := 1) rfl (by omega) dL_law_945 dL_law_946 dL_law_948 dL_law_949 dL_law_950 ?_
  refine xci (va_runV (As := [.int (xs (i + 1))]) (rest := []) ⟨hx, hb, hml, hown, htl⟩ (cw_current l E ax kn nn ln fs fu gi ra pr ci rev sea (xs (i + 1)) (fun i hi => (R0.2.2.2.1 i hi).1.1) (fun j i h => (R0.2.2.2.2.2.1 j i h).1) H.size) (cwV 1 htl gL_law_X7_current rfl rfl rfl (by decide +kernel) ⟨by decide, by decide⟩) ⟨CP.blind, va_recv hev.1 hP (ci := 8) (q0 := 0) rfl rfl, xpre hev hz hA hP hD hS hN hN2 [] rfl⟩ rfl rfl hl.1 rfl (lv_room (Nat.le_of_ble_eq_true rfl)) dL_law_951 ⟨(by show cells + 0 ≤ 601024; omega), (by show slots + 0 ≤ 7293034; omega)⟩) hP hD hS hA (fun r w H locs hp hP hD hS => ?_)
  have hP := hP.perm pca
  have hD := hD.perm pca
  refine lv_aload_n hx hb dL_law_954 rfl (lv_at hl 2 rfl) ?_
  refine la_i G hS hl (lv_at hl 4 rfl) (k := 1) rfl (by omega) dL_law_955 dL_law_956 dL_law_958 dL_law_959 dL_law_960 ?_
  refine xci (va_runV (As := [.int (xs (i + 1))]) (rest := [.int r]) ⟨hx, hb, hml, hown, htl⟩ (mw_current l E mo ad th kn nn mn dp am al pr ci (xs (i + 1)) R0.2.2.2.2.1 H.size) (cwV 1 htl gL_law_X8_current rfl rfl rfl (by decide +kernel) ⟨by decide, by decide⟩) ⟨CP.blind, va_recv hev.1 hP (ci := 9) (q0 := 0) rfl rfl, xpre hev hz hA hP hD hS hN hN2 [] rfl⟩ rfl rfl hl.1 rfl (lv_room (Nat.le_of_ble_eq_true rfl)) dL_law_961 ⟨(by show cells + 0 + 0 ≤ 601024; omega), (by show slots + 0 + 0 ≤ 7293034; omega)⟩) hP hD hS hA (fun r2 w2 H locs hm hP hD hS => ?_)
  obtain ⟨rfl, hLI⟩ := bd_current R0 hp hm
  have hP := hP.perm pca
  have hD := hD.perm pca
  refine lv_icmp_eq (tgt := 1087) hx hb dL_law_964 (by decide) (fun _ => kk H locs _ _ w w2 fo ls hLI hP hD hS hl (by omega) (by omega)) (fun hne => absurd rfl hne)
set_option maxHeartbeats 4000000 in
set_option maxRecDepth 100000 in
theorem lc_hash {p : Program} {l : Launch} {e : Env} {s : State} {m : MethodId} {below : List Frame} {meth : Method} {c : Code} {H : Heap} {locs : List Loc} {cells slots : Nat} {Q : State → Prop} {b L : Nat} {xs : Nat → Int32} {E : xE} {ls : Array Slot} {ax : Nat → Nat} {mo : Nat} {ad : Nat → Nat} {o i : Nat} {kn nn ln : Nat} {fs fu : Nat → Int64} {gi : Nat → Nat → Int32} {ra : Nat → Nat} {pr : Nat → RowP} {ci : Nat → Option Nat} {rev sea : Int32} {th : Int32} {mn dp : Nat} {am : Nat → Nat → Int32} {al : Nat → Nat → Int64} {fo : Nat → Int64} (G : LG p s m c b L xs E) (hi : i + 5 ≤ L) (R0 : Rl kn nn fs fu (gi 0) (gi 1) pr ci rev (gi 5) am al) (hP : va_P E.1 vwCl (CW E ax kn nn ln fs fu gi ra pr ci rev sea ++ (MW E mo ad th kn nn mn dp am al ++ [(o, aJ E 1 fo)])) H) (hD : va_D (lA s) (CW E ax kn nn ln fs fu gi ra pr ci rev sea ++ (MW E mo ad th kn nn mn dp am al ++ [(o, aJ E 1 fo)]))) (hS : va_S (lA s) s.heap H locs) (hl : lv_has ls 7 [(0, .ref b), (1, .ref (ax 0)), (2, .ref mo), (3, .ref o), (4, .int (nI i))]) (hc : cells + 13 ≤ 601024) (hs : slots + 96 ≤ 7293034) (kk : lKK p l e s m below meth c Q b E ax mo ad o i cells slots) : W p l e room_1 s m #[Value.ref b] below meth c H locs cells slots Q (F0 m 969 ls []) := by
  have G0 := G
  obtain ⟨hx, hb, hml, hown, hts, -, hev, hz⟩ := G0
  have htl : ∀ w ∈ wsL_law, w.before #[Value.ref b] s = true := fun w hw => hts w (wsL_law_all w hw)
  have hA : ∀ q : Nat, s.heap.size ≤ q → lA s q := fun q hq => hq
  have hN : va_P E.1 vwCl ([] : va_W) s.heap := va_P.of (fun q hq => by cases hq)
  have hN2 : ∀ q ∈ ([] : va_W), ¬ lA s q.1 := fun q hq => by cases hq
  refine lv_aload_n hx hb dL_law_969 rfl (lv_at hl 1 rfl) ?_
  refine la_i G hS hl (lv_at hl 4 rfl) (k := 1) rfl (by omega) dL_law_970 dL_law_971 dL_law_973 dL_law_974 dL_law_975 ?_
  refine xci (va_runV (As := [.int (xs (i + 1))]) (rest := []) ⟨hx, hb, hml, hown, htl⟩ (cw_hash l E ax kn nn ln fs fu gi ra pr ci rev sea (xs (i + 1)) R0.1.2 (fun i hi => (R0.2.2.2.1 i hi).1.1) H.size) (cwV 1 htl gL_law_X7_hash rfl rfl rfl (by decide +kernel) ⟨by decide, by decide⟩) ⟨CP.blind, va_recv hev.1 hP (ci := 8) (q0 := 0) rfl rfl, xpre hev hz hA hP hD hS hN hN2 [] rfl⟩ rfl rfl hl.1 rfl (lv_room (Nat.le_of_ble_eq_true rfl)) dL_law_976 ⟨(by show cells + 0 ≤ 601024; omega), (by show slots + 0 ≤ 7293034; omega)⟩) hP hD hS hA (fun r w H locs hp hP hD hS => ?_)
  have hP := hP.perm pca
  have hD := hD.perm pca
  refine lv_aload_n hx hb dL_law_979 rfl (lv_at hl 2 rfl) ?_
  refine la_i G hS hl (lv_at hl 4 rfl) (k := 1) rfl (by omega) dL_law_980 dL_law_981 dL_law_983 dL_law_984 dL_law_985 ?_
  refine xci (va_runV (As := [.int (xs (i + 1))]) (rest := [.int r]) ⟨hx, hb, hml, hown, htl⟩ (mw_hash l E mo ad th kn nn mn dp am al pr ci (xs (i + 1)) (Rl.mok R0) R0.1.2 R0.2.2.2.2.2.2.2.2.1 R0.2.2.2.2.2.2.2.2.2.1 H.size) (cwV 1 htl gL_law_X8_hash rfl rfl rfl (by decide +kernel) ⟨by decide, by decide⟩) ⟨CP.blind, va_recv hev.1 hP (ci := 9) (q0 := 0) rfl rfl, xpre hev hz hA hP hD hS hN hN2 [] rfl⟩ rfl rfl hl.1 rfl (lv_room (Nat.le_of_ble_eq_true rfl)) dL_law_986 ⟨(by show cells + 0 + 0 ≤ 601024; omega), (by show slots + 0 + 0 ≤ 7293034; omega)⟩) hP hD hS hA (fun r2 w2 H locs hm hP hD hS => ?_)
  obtain ⟨rfl, hLI⟩ := bd_hash R0 hp hm
  have hP := hP.perm pca
  have hD := hD.perm pca
  refine lv_icmp_eq (tgt := 1087) hx hb dL_law_989 (by decide) (fun _ => kk H locs _ _ w w2 fo ls hLI hP hD hS hl (by omega) (by omega)) (fun hne => absurd rfl hne)
set_option maxHeartbeats 4000000 in
set_option maxRecDepth 100000 in
theorem lc_about {p : Program} {l : Launch} {e : Env} {s : State} {m : MethodId} {below : List Frame} {meth : Method} {c : Code} {H : Heap} {locs : List Loc} {cells slots : Nat} {Q : State → Prop} {b L : Nat} {xs : Nat → Int32} {E : xE} {ls : Array Slot} {ax : Nat → Nat} {mo : Nat} {ad : Nat → Nat} {o i : Nat} {kn nn ln : Nat} {fs fu : Nat → Int64} {gi : Nat → Nat → Int32} {ra : Nat → Nat} {pr : Nat → RowP} {ci : Nat → Option Nat} {rev sea : Int32} {th : Int32} {mn dp : Nat} {am : Nat → Nat → Int32} {al : Nat → Nat → Int64} {fo : Nat → Int64} (G : LG p s m c b L xs E) (hi : i + 5 ≤ L) (R0 : Rl kn nn fs fu (gi 0) (gi 1) pr ci rev (gi 5) am al) (hP : va_P E.1 vwCl (CW E ax kn nn ln fs fu gi ra pr ci rev sea ++ (MW E mo ad th kn nn mn dp am al ++ [(o, aJ E 1 fo)])) H) (hD : va_D (lA s) (CW E ax kn nn ln fs fu gi ra pr ci rev sea ++ (MW E mo ad th kn nn mn dp am al ++ [(o, aJ E 1 fo)]))) (hS : va_S (lA s) s.heap H locs) (hl : lv_has ls 7 [(0, .ref b), (1, .ref (ax 0)), (2, .ref mo), (3, .ref o), (4, .int (nI i))]) (hc : cells + 13 ≤ 601024) (hs : slots + 96 ≤ 7293034) (kk : lKK p l e s m below meth c Q b E ax mo ad o i cells slots) : W p l e room_1 s m #[Value.ref b] below meth c H locs cells slots Q (F0 m 1050 ls []) := by
  have G0 := G
  obtain ⟨hx, hb, hml, hown, hts, -, hev, hz⟩ := G0
  have htl : ∀ w ∈ wsL_law, w.before #[Value.ref b] s = true := fun w hw => hts w (wsL_law_all w hw)
  have hA : ∀ q : Nat, s.heap.size ≤ q → lA s q := fun q hq => hq
  have hN : va_P E.1 vwCl ([] : va_W) s.heap := va_P.of (fun q hq => by cases hq)
  have hN2 : ∀ q ∈ ([] : va_W), ¬ lA s q.1 := fun q hq => by cases hq
  refine lv_aload_n hx hb dL_law_1050 rfl (lv_at hl 1 rfl) ?_
  refine la_i G hS hl (lv_at hl 4 rfl) (k := 1) rfl (by omega) dL_law_1051 dL_law_1052 dL_law_1054 dL_law_1055 dL_law_1056 ?_
  refine la_i G hS hl (lv_at hl 4 rfl) (k := 2) rfl (by omega) dL_law_1057 dL_law_1058 dL_law_1060 dL_law_1061 dL_law_1062 ?_
  refine xci (va_runV (As := [.int (xs (i + 1)), .int (xs (i + 2))]) (rest := []) ⟨hx, hb, hml, hown, htl⟩ (cw_about l E ax kn nn ln fs fu gi ra pr ci rev sea (xs (i + 1)) (xs (i + 2)) R0.1.2 (fun i hi => (R0.2.2.2.1 i hi).1.1) H.size) (cwV 2 htl gL_law_X7_about rfl rfl rfl (by decide +kernel) ⟨by decide, by decide⟩) ⟨CP.blind, va_recv hev.1 hP (ci := 8) (q0 := 0) rfl rfl, xpre hev hz hA hP hD hS hN hN2 [] rfl⟩ rfl rfl hl.1 rfl (lv_room (Nat.le_of_ble_eq_true rfl)) dL_law_1063 ⟨(by show cells + 0 ≤ 601024; omega), (by show slots + 0 ≤ 7293034; omega)⟩) hP hD hS hA (fun r w H locs hp hP hD hS => ?_)
  have hP := hP.perm pca
  have hD := hD.perm pca
  refine lv_aload_n hx hb dL_law_1066 rfl (lv_at hl 2 rfl) ?_
  refine la_i G hS hl (lv_at hl 4 rfl) (k := 1) rfl (by omega) dL_law_1067 dL_law_1068 dL_law_1070 dL_law_1071 dL_law_1072 ?_
  refine la_i G hS hl (lv_at hl 4 rfl) (k := 2) rfl (by omega) dL_law_1073 dL_law_1074 dL_law_1076 dL_law_1077 dL_law_1078 ?_
  refine xci (va_runV (As := [.int (xs (i + 1)), .int (xs (i + 2))]) (rest := [.int r]) ⟨hx, hb, hml, hown, htl⟩ (mw_about l E mo ad th kn nn mn dp am al pr ci (xs (i + 1)) (xs (i + 2)) (Rl.mok R0) R0.1.2 R0.1.1 R0.2.2.2.2.2.2.2.2.1 R0.2.2.2.2.2.2.2.2.2.1 H.size) (cwV 2 htl gL_law_X8_about rfl rfl rfl (by decide +kernel) ⟨by decide, by decide⟩) ⟨CP.blind, va_recv hev.1 hP (ci := 9) (q0 := 0) rfl rfl, xpre hev hz hA hP hD hS hN hN2 [] rfl⟩ rfl rfl hl.1 rfl (lv_room (Nat.le_of_ble_eq_true rfl)) dL_law_1079 ⟨(by show cells + 0 + 0 ≤ 601024; omega), (by show slots + 0 + 0 ≤ 7293034; omega)⟩) hP hD hS hA (fun r2 w2 H locs hm hP hD hS => ?_)
  obtain ⟨rfl, hLI⟩ := bd_about R0 hp hm
  have hP := hP.perm pca
  have hD := hD.perm pca
  refine lv_icmp_eq (tgt := 1087) hx hb dL_law_1082 (by decide) (fun _ => kk H locs _ _ w w2 fo ls hLI hP hD hS hl (by omega) (by omega)) (fun hne => absurd rfl hne)
