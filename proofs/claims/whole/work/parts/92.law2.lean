/-! THE LAW: its cases -/
set_option maxHeartbeats 4000000 in
set_option maxRecDepth 100000 in
theorem lc_delegate {p : Program} {l : Launch} {e : Env} {s : State} {m : MethodId} {below : List Frame} {meth : Method} {c : Code} {H : Heap} {locs : List Loc} {cells slots : Nat} {Q : State → Prop} {b L : Nat} {xs : Nat → Int32} {E : xE} {ls : Array Slot} {ax : Nat → Nat} {mo : Nat} {ad : Nat → Nat} {o i : Nat} {kn nn ln : Nat} {fs fu : Nat → Int64} {gi : Nat → Nat → Int32} {ra : Nat → Nat} {pr : Nat → RowP} {ci : Nat → Option Nat} {rev sea : Int32} {th : Int32} {mn dp : Nat} {am : Nat → Nat → Int32} {al : Nat → Nat → Int64} {fo : Nat → Int64} (G : LG p s m c b L xs E) (hi : i + 5 ≤ L) (R0 : Rl kn nn fs fu (gi 0) (gi 1) pr ci rev (gi 5) am al) (hP : va_P E.1 vwCl (CW E ax kn nn ln fs fu gi ra pr ci rev sea ++ (MW E mo ad th kn nn mn dp am al ++ [(o, aJ E 1 fo)])) H) (hD : va_D (lA s) (CW E ax kn nn ln fs fu gi ra pr ci rev sea ++ (MW E mo ad th kn nn mn dp am al ++ [(o, aJ E 1 fo)]))) (hS : va_S (lA s) s.heap H locs) (hl : lv_has ls 7 [(0, .ref b), (1, .ref (ax 0)), (2, .ref mo), (3, .ref o), (4, .int (nI i))]) (hc : cells + 13 ≤ 601024) (hs : slots + 96 ≤ 7293034) (kk : lKK p l e s m below meth c Q b E ax mo ad o i cells slots) : W p l e room_1 s m #[Value.ref b] below meth c H locs cells slots Q (F0 m 498 ls []) := by
  have G0 := G
  obtain ⟨hx, hb, hml, hown, hts, -, hev, hz⟩ := G0
  have htl : ∀ w ∈ wsL_law, w.before #[Value.ref b] s = true := fun w hw => hts w (wsL_law_all w hw)
  have hA : ∀ q : Nat, s.heap.size ≤ q → lA s q := fun q hq => hq
  have hN : va_P E.1 vwCl ([] : va_W) s.heap := va_P.of (fun q hq => by cases hq)
  have hN2 : ∀ q ∈ ([] : va_W), ¬ lA s q.1 := fun q hq => by cases hq
  refine lv_aload_n hx hb dL_law_498 rfl (lv_at hl 1 rfl) ?_
  refine la_i G hS hl (lv_at hl 4 rfl) (k := 1) rfl (by omega) dL_law_499 dL_law_500 dL_law_502 dL_law_503 dL_law_504 ?_
  refine la_i G hS hl (lv_at hl 4 rfl) (k := 2) rfl (by omega) dL_law_505 dL_law_506 dL_law_508 dL_law_509 dL_law_510 ?_
  refine la_i G hS hl (lv_at hl 4 rfl) (k := 3) rfl (by omega) dL_law_511 dL_law_512 dL_law_514 dL_law_515 dL_law_516 ?_
  refine la_b G hS hl (lv_at hl 4 rfl) (k := 4) rfl (by omega) dL_law_517 dL_law_518 dL_law_520 dL_law_521 dL_law_522 dL_law_523 dL_law_526 dL_law_527 dL_law_530 ?_
  refine xci (va_runV (As := [.int (xs (i + 1)), .int (xs (i + 2)), .int (xs (i + 3)), .int (b01 (xs (i + 4)))]) (rest := []) ⟨hx, hb, hml, hown, htl⟩ (cw_delegate l E ax kn nn ln fs fu gi ra pr ci rev sea (xs (i + 1)) (xs (i + 2)) (xs (i + 3)) (b01 (xs (i + 4))) R0.1.2 (fun i hi => (R0.2.2.2.1 i hi).1.1) H.size) (cwV 4 htl gL_law_X7_delegate rfl rfl rfl (by decide +kernel) ⟨by decide, by decide⟩) ⟨CP.blind, va_recv hev.1 hP (ci := 8) (q0 := 0) rfl rfl, xpre hev hz hA hP hD hS hN hN2 [] rfl⟩ rfl rfl hl.1 rfl (lv_room (Nat.le_of_ble_eq_true rfl)) dL_law_531 ⟨(by show cells + 0 ≤ 601024; omega), (by show slots + 0 ≤ 7293034; omega)⟩) hP hD hS hA (fun r w H locs hp hP hD hS => ?_)
  have hP := hP.perm pca
  have hD := hD.perm pca
  refine lv_aload_n hx hb dL_law_534 rfl (lv_at hl 2 rfl) ?_
  refine la_i G hS hl (lv_at hl 4 rfl) (k := 1) rfl (by omega) dL_law_535 dL_law_536 dL_law_538 dL_law_539 dL_law_540 ?_
  refine la_i G hS hl (lv_at hl 4 rfl) (k := 2) rfl (by omega) dL_law_541 dL_law_542 dL_law_544 dL_law_545 dL_law_546 ?_
  refine la_i G hS hl (lv_at hl 4 rfl) (k := 3) rfl (by omega) dL_law_547 dL_law_548 dL_law_550 dL_law_551 dL_law_552 ?_
  refine la_b G hS hl (lv_at hl 4 rfl) (k := 4) rfl (by omega) dL_law_553 dL_law_554 dL_law_556 dL_law_557 dL_law_558 dL_law_559 dL_law_562 dL_law_563 dL_law_566 ?_
  refine xci (va_runV (As := [.int (xs (i + 1)), .int (xs (i + 2)), .int (xs (i + 3)), .int (b01 (xs (i + 4)))]) (rest := [.int r]) ⟨hx, hb, hml, hown, htl⟩ (mw_delegate l E mo ad th kn nn mn dp am al pr ci (xs (i + 1)) (xs (i + 2)) (xs (i + 3)) (b01 (xs (i + 4))) (Rl.mok R0) R0.1.2 H.size) (cwV 4 htl gL_law_X8_delegate rfl rfl rfl (by decide +kernel) ⟨by decide, by decide⟩) ⟨CP.blind, va_recv hev.1 hP (ci := 9) (q0 := 0) rfl rfl, xpre hev hz hA hP hD hS hN hN2 [] rfl⟩ rfl rfl hl.1 rfl (lv_room (Nat.le_of_ble_eq_true rfl)) dL_law_567 ⟨(by show cells + 0 + 0 ≤ 601024; omega), (by show slots + 0 + 0 ≤ 7293034; omega)⟩) hP hD hS hA (fun r2 w2 H locs hm hP hD hS => ?_)
  obtain ⟨rfl, hLI⟩ := bd_delegate R0 hp hm
  have hP := hP.perm pca
  have hD := hD.perm pca
  refine lv_icmp_eq (tgt := 1087) hx hb dL_law_570 (by decide) (fun _ => kk H locs _ _ w w2 fo ls hLI hP hD hS hl (by omega) (by omega)) (fun hne => absurd rfl hne)
set_option maxHeartbeats 4000000 in
set_option maxRecDepth 100000 in
theorem lc_lists {p : Program} {l : Launch} {e : Env} {s : State} {m : MethodId} {below : List Frame} {meth : Method} {c : Code} {H : Heap} {locs : List Loc} {cells slots : Nat} {Q : State → Prop} {b L : Nat} {xs : Nat → Int32} {E : xE} {ls : Array Slot} {ax : Nat → Nat} {mo : Nat} {ad : Nat → Nat} {o i : Nat} {kn nn ln : Nat} {fs fu : Nat → Int64} {gi : Nat → Nat → Int32} {ra : Nat → Nat} {pr : Nat → RowP} {ci : Nat → Option Nat} {rev sea : Int32} {th : Int32} {mn dp : Nat} {am : Nat → Nat → Int32} {al : Nat → Nat → Int64} {fo : Nat → Int64} (G : LG p s m c b L xs E) (hi : i + 5 ≤ L) (R0 : Rl kn nn fs fu (gi 0) (gi 1) pr ci rev (gi 5) am al) (hP : va_P E.1 vwCl (CW E ax kn nn ln fs fu gi ra pr ci rev sea ++ (MW E mo ad th kn nn mn dp am al ++ [(o, aJ E 1 fo)])) H) (hD : va_D (lA s) (CW E ax kn nn ln fs fu gi ra pr ci rev sea ++ (MW E mo ad th kn nn mn dp am al ++ [(o, aJ E 1 fo)]))) (hS : va_S (lA s) s.heap H locs) (hl : lv_has ls 7 [(0, .ref b), (1, .ref (ax 0)), (2, .ref mo), (3, .ref o), (4, .int (nI i))]) (hc : cells + 13 ≤ 601024) (hs : slots + 96 ≤ 7293034) (kk : lKK p l e s m below meth c Q b E ax mo ad o i cells slots) : W p l e room_1 s m #[Value.ref b] below meth c H locs cells slots Q (F0 m 575 ls []) := by
  have G0 := G
  obtain ⟨hx, hb, hml, hown, hts, -, hev, hz⟩ := G0
  have htl : ∀ w ∈ wsL_law, w.before #[Value.ref b] s = true := fun w hw => hts w (wsL_law_all w hw)
  have hA : ∀ q : Nat, s.heap.size ≤ q → lA s q := fun q hq => hq
  have hN : va_P E.1 vwCl ([] : va_W) s.heap := va_P.of (fun q hq => by cases hq)
  have hN2 : ∀ q ∈ ([] : va_W), ¬ lA s q.1 := fun q hq => by cases hq
  refine lv_aload_n hx hb dL_law_575 rfl (lv_at hl 1 rfl) ?_
  refine la_i G hS hl (lv_at hl 4 rfl) (k := 1) rfl (by omega) dL_law_576 dL_law_577 dL_law_579 dL_law_580 dL_law_581 ?_
  refine la_i G hS hl (lv_at hl 4 rfl) (k := 2) rfl (by omega) dL_law_582 dL_law_583 dL_law_585 dL_law_586 dL_law_587 ?_
  refine xci (va_runV (As := [.int (xs (i + 1)), .int (xs (i + 2))]) (rest := []) ⟨hx, hb, hml, hown, htl⟩ (cw_lists l E ax kn nn ln fs fu gi ra pr ci rev sea (xs (i + 1)) (xs (i + 2)) R0.1.2 (fun i hi => (R0.2.2.2.1 i hi).1.1) H.size) (cwV 2 htl gL_law_X7_lists rfl rfl rfl (by decide +kernel) ⟨by decide, by decide⟩) ⟨CP.blind, va_recv hev.1 hP (ci := 8) (q0 := 0) rfl rfl, xpre hev hz hA hP hD hS hN hN2 [] rfl⟩ rfl rfl hl.1 rfl (lv_room (Nat.le_of_ble_eq_true rfl)) dL_law_588 ⟨(by show cells + 0 ≤ 601024; omega), (by show slots + 0 ≤ 7293034; omega)⟩) hP hD hS hA (fun r w H locs hp hP hD hS => ?_)
  have hP := hP.perm pca
  have hD := hD.perm pca
  refine lv_aload_n hx hb dL_law_591 rfl (lv_at hl 2 rfl) ?_
  refine la_i G hS hl (lv_at hl 4 rfl) (k := 1) rfl (by omega) dL_law_592 dL_law_593 dL_law_595 dL_law_596 dL_law_597 ?_
  refine la_i G hS hl (lv_at hl 4 rfl) (k := 2) rfl (by omega) dL_law_598 dL_law_599 dL_law_601 dL_law_602 dL_law_603 ?_
  refine xci (va_runV (As := [.int (xs (i + 1)), .int (xs (i + 2))]) (rest := [.int r]) ⟨hx, hb, hml, hown, htl⟩ (mw_lists l E mo ad th kn nn mn dp am al pr ci (xs (i + 1)) (xs (i + 2)) (Rl.mok R0) R0.1.2 H.size) (cwV 2 htl gL_law_X8_lists rfl rfl rfl (by decide +kernel) ⟨by decide, by decide⟩) ⟨CP.blind, va_recv hev.1 hP (ci := 9) (q0 := 0) rfl rfl, xpre hev hz hA hP hD hS hN hN2 [] rfl⟩ rfl rfl hl.1 rfl (lv_room (Nat.le_of_ble_eq_true rfl)) dL_law_604 ⟨(by show cells + 0 + 0 ≤ 601024; omega), (by show slots + 0 + 0 ≤ 7293034; omega)⟩) hP hD hS hA (fun r2 w2 H locs hm hP hD hS => ?_)
  obtain ⟨rfl, hLI⟩ := bd_lists R0 hp hm
  have hP := hP.perm pca
  have hD := hD.perm pca
  refine lv_icmp_eq (tgt := 1087) hx hb dL_law_607 (by decide) (fun _ => kk H locs _ _ w w2 fo ls hLI hP hD hS hl (by omega) (by omega)) (fun hne => absurd rfl hne)
set_option maxHeartbeats 4000000 in
set_option maxRecDepth 100000 in
theorem lc_sign {p : Program} {l : Launch} {e : Env} {s : State} {m : MethodId} {below : List Frame} {meth : Method} {c : Code} {H : Heap} {locs : List Loc} {cells slots : Nat} {Q : State → Prop} {b L : Nat} {xs : Nat → Int32} {E : xE} {ls : Array Slot} {ax : Nat → Nat} {mo : Nat} {ad : Nat → Nat} {o i : Nat} {kn nn ln : Nat} {fs fu : Nat → Int64} {gi : Nat → Nat → Int32} {ra : Nat → Nat} {pr : Nat → RowP} {ci : Nat → Option Nat} {rev sea : Int32} {th : Int32} {mn dp : Nat} {am : Nat → Nat → Int32} {al : Nat → Nat → Int64} {fo : Nat → Int64} (G : LG p s m c b L xs E) (hi : i + 5 ≤ L) (R0 : Rl kn nn fs fu (gi 0) (gi 1) pr ci rev (gi 5) am al) (hP : va_P E.1 vwCl (CW E ax kn nn ln fs fu gi ra pr ci rev sea ++ (MW E mo ad th kn nn mn dp am al ++ [(o, aJ E 1 fo)])) H) (hD : va_D (lA s) (CW E ax kn nn ln fs fu gi ra pr ci rev sea ++ (MW E mo ad th kn nn mn dp am al ++ [(o, aJ E 1 fo)]))) (hS : va_S (lA s) s.heap H locs) (hl : lv_has ls 7 [(0, .ref b), (1, .ref (ax 0)), (2, .ref mo), (3, .ref o), (4, .int (nI i))]) (hc : cells + 13 ≤ 601024) (hs : slots + 96 ≤ 7293034) (kk : lKK p l e s m below meth c Q b E ax mo ad o i cells slots) : W p l e room_1 s m #[Value.ref b] below meth c H locs cells slots Q (F0 m 612 ls []) := by
  have G0 := G
  obtain ⟨hx, hb, hml, hown, hts, -, hev, hz⟩ := G0
  have htl : ∀ w ∈ wsL_law, w.before #[Value.ref b] s = true := fun w hw => hts w (wsL_law_all w hw)
  have hA : ∀ q : Nat, s.heap.size ≤ q → lA s q := fun q hq => hq
  have hN : va_P E.1 vwCl ([] : va_W) s.heap := va_P.of (fun q hq => by cases hq)
  have hN2 : ∀ q ∈ ([] : va_W), ¬ lA s q.1 := fun q hq => by cases hq
  refine lv_aload_n hx hb dL_law_612 rfl (lv_at hl 1 rfl) ?_
  refine la_i G hS hl (lv_at hl 4 rfl) (k := 1) rfl (by omega) dL_law_613 dL_law_614 dL_law_616 dL_law_617 dL_law_618 ?_
  refine la_i G hS hl (lv_at hl 4 rfl) (k := 2) rfl (by omega) dL_law_619 dL_law_620 dL_law_622 dL_law_623 dL_law_624 ?_
  refine xcl (va_runV (As := [.int (xs (i + 1)), .int (xs (i + 2))]) (rest := []) ⟨hx, hb, hml, hown, htl⟩ (cw_sign l E ax kn nn ln fs fu gi ra pr ci rev sea (xs (i + 1)) (xs (i + 2)) R0.1.2 (fun i hi => (R0.2.2.2.1 i hi).1.1) R0.1.1 H.size) (cwV 2 htl gL_law_X7_sign rfl rfl rfl (by decide +kernel) ⟨by decide, by decide⟩) ⟨CP.blind, va_recv hev.1 hP (ci := 8) (q0 := 0) rfl rfl, xpre hev hz hA hP hD hS hN hN2 [] rfl⟩ rfl rfl hl.1 rfl (lv_room (Nat.le_of_ble_eq_true rfl)) dL_law_625 ⟨(by show cells + 0 ≤ 601024; omega), (by show slots + 0 ≤ 7293034; omega)⟩) hP hD hS hA (fun r w H locs hp hP hD hS => ?_)
  have hP := hP.perm pca
  have hD := hD.perm pca
  refine lv_aload_n hx hb dL_law_628 rfl (lv_at hl 2 rfl) ?_
  refine la_i G hS hl (lv_at hl 4 rfl) (k := 1) rfl (by omega) dL_law_629 dL_law_630 dL_law_632 dL_law_633 dL_law_634 ?_
  refine la_i G hS hl (lv_at hl 4 rfl) (k := 2) rfl (by omega) dL_law_635 dL_law_636 dL_law_638 dL_law_639 dL_law_640 ?_
  refine xcl (va_runV (As := [.int (xs (i + 1)), .int (xs (i + 2))]) (rest := [.long r]) ⟨hx, hb, hml, hown, htl⟩ (mw_sign l E mo ad th kn nn mn dp am al pr ci (xs (i + 1)) (xs (i + 2)) (Rl.mok R0) R0.1.2 R0.1.1 R0.2.2.2.2.2.2.2.2.1 R0.2.2.2.2.2.2.2.2.2.1 H.size) (cwV 2 htl gL_law_X8_sign rfl rfl rfl (by decide +kernel) ⟨by decide, by decide⟩) ⟨CP.blind, va_recv hev.1 hP (ci := 9) (q0 := 0) rfl rfl, xpre hev hz hA hP hD hS hN hN2 [] rfl⟩ rfl rfl hl.1 rfl (lv_room (Nat.le_of_ble_eq_true rfl)) dL_law_641 ⟨(by show cells + 0 + 0 ≤ 601024; omega), (by show slots + 0 + 0 ≤ 7293034; omega)⟩) hP hD hS hA (fun r2 w2 H locs hm hP hD hS => ?_)
  obtain ⟨rfl, hLI⟩ := bd_sign R0 hp hm
  have hP := hP.perm pca
  have hD := hD.perm pca
  refine W.lcmp hx hb dL_law_644 ?_
  refine lv_if_eq (tgt := 1087) hx hb dL_law_645 (by decide) (fun _ => kk H locs _ _ w w2 fo ls hLI hP hD hS hl (by omega) (by omega)) (fun hne => absurd ((lg_cmp_eq r r).mpr rfl) hne)
set_option maxHeartbeats 4000000 in
set_option maxRecDepth 100000 in
theorem lc_forge {p : Program} {l : Launch} {e : Env} {s : State} {m : MethodId} {below : List Frame} {meth : Method} {c : Code} {H : Heap} {locs : List Loc} {cells slots : Nat} {Q : State → Prop} {b L : Nat} {xs : Nat → Int32} {E : xE} {ls : Array Slot} {ax : Nat → Nat} {mo : Nat} {ad : Nat → Nat} {o i : Nat} {kn nn ln : Nat} {fs fu : Nat → Int64} {gi : Nat → Nat → Int32} {ra : Nat → Nat} {pr : Nat → RowP} {ci : Nat → Option Nat} {rev sea : Int32} {th : Int32} {mn dp : Nat} {am : Nat → Nat → Int32} {al : Nat → Nat → Int64} {fo : Nat → Int64} (G : LG p s m c b L xs E) (hi : i + 5 ≤ L) (R0 : Rl kn nn fs fu (gi 0) (gi 1) pr ci rev (gi 5) am al) (hP : va_P E.1 vwCl (CW E ax kn nn ln fs fu gi ra pr ci rev sea ++ (MW E mo ad th kn nn mn dp am al ++ [(o, aJ E 1 fo)])) H) (hD : va_D (lA s) (CW E ax kn nn ln fs fu gi ra pr ci rev sea ++ (MW E mo ad th kn nn mn dp am al ++ [(o, aJ E 1 fo)]))) (hS : va_S (lA s) s.heap H locs) (hl : lv_has ls 7 [(0, .ref b), (1, .ref (ax 0)), (2, .ref mo), (3, .ref o), (4, .int (nI i))]) (hc : cells + 13 ≤ 601024) (hs : slots + 96 ≤ 7293034) (kk : lKK p l e s m below meth c Q b E ax mo ad o i cells slots) : W p l e room_1 s m #[Value.ref b] below meth c H locs cells slots Q (F0 m 650 ls []) := by
  have G0 := G
  obtain ⟨hx, hb, hml, hown, hts, -, hev, hz⟩ := G0
  have htl : ∀ w ∈ wsL_law, w.before #[Value.ref b] s = true := fun w hw => hts w (wsL_law_all w hw)
  have hA : ∀ q : Nat, s.heap.size ≤ q → lA s q := fun q hq => hq
  have hN : va_P E.1 vwCl ([] : va_W) s.heap := va_P.of (fun q hq => by cases hq)
  have hN2 : ∀ q ∈ ([] : va_W), ¬ lA s q.1 := fun q hq => by cases hq
  refine lv_aload_n hx hb dL_law_650 rfl (lv_at hl 1 rfl) ?_
  refine la_i G hS hl (lv_at hl 4 rfl) (k := 1) rfl (by omega) dL_law_651 dL_law_652 dL_law_654 dL_law_655 dL_law_656 ?_
  refine la_i G hS hl (lv_at hl 4 rfl) (k := 2) rfl (by omega) dL_law_657 dL_law_658 dL_law_660 dL_law_661 dL_law_662 ?_
  refine la_l G hS hl (lv_at hl 4 rfl) (k := 3) rfl rfl (by omega) dL_law_663 dL_law_664 dL_law_666 dL_law_667 dL_law_668 dL_law_669 dL_law_670 dL_law_672 dL_law_673 dL_law_674 dL_law_676 dL_law_677 dL_law_678 dL_law_679 dL_law_680 dL_law_683 dL_law_684 ?_
  refine xci (va_runV (As := [.int (xs (i + 1)), .int (xs (i + 2)), .long (lng (xs (i + 3)) (xs (i + (3 + 1))))]) (rest := []) ⟨hx, hb, hml, hown, htl⟩ (cw_forge l E ax kn nn ln fs fu gi ra pr ci rev sea (xs (i + 1)) (xs (i + 2)) (lng (xs (i + 3)) (xs (i + (3 + 1)))) R0.1.2 (fun i hi => (R0.2.2.2.1 i hi).1.1) R0.1.1 H.size) (cwV 3 htl gL_law_X7_forge rfl rfl rfl (by decide +kernel) ⟨by decide, by decide⟩) ⟨CP.blind, va_recv hev.1 hP (ci := 8) (q0 := 0) rfl rfl, xpre hev hz hA hP hD hS hN hN2 [] rfl⟩ rfl rfl hl.1 rfl (lv_room (Nat.le_of_ble_eq_true rfl)) dL_law_685 ⟨(by show cells + 0 ≤ 601024; omega), (by show slots + 0 ≤ 7293034; omega)⟩) hP hD hS hA (fun r w H locs hp hP hD hS => ?_)
  have hP := hP.perm pca
  have hD := hD.perm pca
  refine lv_aload_n hx hb dL_law_688 rfl (lv_at hl 2 rfl) ?_
  refine la_i G hS hl (lv_at hl 4 rfl) (k := 1) rfl (by omega) dL_law_689 dL_law_690 dL_law_692 dL_law_693 dL_law_694 ?_
  refine la_i G hS hl (lv_at hl 4 rfl) (k := 2) rfl (by omega) dL_law_695 dL_law_696 dL_law_698 dL_law_699 dL_law_700 ?_
  refine la_l G hS hl (lv_at hl 4 rfl) (k := 3) rfl rfl (by omega) dL_law_701 dL_law_702 dL_law_704 dL_law_705 dL_law_706 dL_law_707 dL_law_708 dL_law_710 dL_law_711 dL_law_712 dL_law_714 dL_law_715 dL_law_716 dL_law_717 dL_law_718 dL_law_721 dL_law_722 ?_
  refine xci (va_runV (As := [.int (xs (i + 1)), .int (xs (i + 2)), .long (lng (xs (i + 3)) (xs (i + (3 + 1))))]) (rest := [.int r]) ⟨hx, hb, hml, hown, htl⟩ (mw_forge l E mo ad th kn nn mn dp am al pr ci (xs (i + 1)) (xs (i + 2)) (lng (xs (i + 3)) (xs (i + (3 + 1)))) (Rl.mok R0) R0.1.2 R0.1.1 H.size) (cwV 3 htl gL_law_X8_forge rfl rfl rfl (by decide +kernel) ⟨by decide, by decide⟩) ⟨CP.blind, va_recv hev.1 hP (ci := 9) (q0 := 0) rfl rfl, xpre hev hz hA hP hD hS hN hN2 [] rfl⟩ rfl rfl hl.1 rfl (lv_room (Nat.le_of_ble_eq_true rfl)) dL_law_723 ⟨(by show cells + 0 + 0 ≤ 601024; omega), (by show slots + 0 + 0 ≤ 7293034; omega)⟩) hP hD hS hA (fun r2 w2 H locs hm hP hD hS => ?_)
  obtain ⟨rfl, hLI⟩ := bd_forge R0 hp hm
  have hP := hP.perm pca
  have hD := hD.perm pca
  refine lv_icmp_eq (tgt := 1087) hx hb dL_law_726 (by decide) (fun _ => kk H locs _ _ w w2 fo ls hLI hP hD hS hl (by omega) (by omega)) (fun hne => absurd rfl hne)
set_option maxHeartbeats 4000000 in
set_option maxRecDepth 100000 in
theorem lc_verify {p : Program} {l : Launch} {e : Env} {s : State} {m : MethodId} {below : List Frame} {meth : Method} {c : Code} {H : Heap} {locs : List Loc} {cells slots : Nat} {Q : State → Prop} {b L : Nat} {xs : Nat → Int32} {E : xE} {ls : Array Slot} {ax : Nat → Nat} {mo : Nat} {ad : Nat → Nat} {o i : Nat} {kn nn ln : Nat} {fs fu : Nat → Int64} {gi : Nat → Nat → Int32} {ra : Nat → Nat} {pr : Nat → RowP} {ci : Nat → Option Nat} {rev sea : Int32} {th : Int32} {mn dp : Nat} {am : Nat → Nat → Int32} {al : Nat → Nat → Int64} {fo : Nat → Int64} (G : LG p s m c b L xs E) (hi : i + 5 ≤ L) (R0 : Rl kn nn fs fu (gi 0) (gi 1) pr ci rev (gi 5) am al) (hP : va_P E.1 vwCl (CW E ax kn nn ln fs fu gi ra pr ci rev sea ++ (MW E mo ad th kn nn mn dp am al ++ [(o, aJ E 1 fo)])) H) (hD : va_D (lA s) (CW E ax kn nn ln fs fu gi ra pr ci rev sea ++ (MW E mo ad th kn nn mn dp am al ++ [(o, aJ E 1 fo)]))) (hS : va_S (lA s) s.heap H locs) (hl : lv_has ls 7 [(0, .ref b), (1, .ref (ax 0)), (2, .ref mo), (3, .ref o), (4, .int (nI i))]) (hc : cells + 13 ≤ 601024) (hs : slots + 96 ≤ 7293034) (kk : lKK p l e s m below meth c Q b E ax mo ad o i cells slots) : W p l e room_1 s m #[Value.ref b] below meth c H locs cells slots Q (F0 m 731 ls []) := by
  have G0 := G
  obtain ⟨hx, hb, hml, hown, hts, -, hev, hz⟩ := G0
  have htl : ∀ w ∈ wsL_law, w.before #[Value.ref b] s = true := fun w hw => hts w (wsL_law_all w hw)
  have hA : ∀ q : Nat, s.heap.size ≤ q → lA s q := fun q hq => hq
  have hN : va_P E.1 vwCl ([] : va_W) s.heap := va_P.of (fun q hq => by cases hq)
  have hN2 : ∀ q ∈ ([] : va_W), ¬ lA s q.1 := fun q hq => by cases hq
  refine lv_aload_n hx hb dL_law_731 rfl (lv_at hl 1 rfl) ?_
  refine la_i G hS hl (lv_at hl 4 rfl) (k := 1) rfl (by omega) dL_law_732 dL_law_733 dL_law_735 dL_law_736 dL_law_737 ?_
  refine la_l G hS hl (lv_at hl 4 rfl) (k := 2) rfl rfl (by omega) dL_law_738 dL_law_739 dL_law_741 dL_law_742 dL_law_743 dL_law_744 dL_law_745 dL_law_747 dL_law_748 dL_law_749 dL_law_751 dL_law_752 dL_law_753 dL_law_754 dL_law_755 dL_law_758 dL_law_759 ?_
  refine xci (va_runV (As := [.int (xs (i + 1)), .long (lng (xs (i + 2)) (xs (i + (2 + 1))))]) (rest := []) ⟨hx, hb, hml, hown, htl⟩ (cw_verify l E ax kn nn ln fs fu gi ra pr ci rev sea (xs (i + 1)) (lng (xs (i + 2)) (xs (i + (2 + 1)))) R0.1.2 R0.1.1 (fun i hi => (R0.2.2.2.1 i hi).1.1) (fun j i h => (R0.2.2.2.2.2.1 j i h).1) H.size) (cwV 2 htl gL_law_X7_verify rfl rfl rfl (by decide +kernel) ⟨by decide, by decide⟩) ⟨CP.blind, va_recv hev.1 hP (ci := 8) (q0 := 0) rfl rfl, xpre hev hz hA hP hD hS hN hN2 [] rfl⟩ rfl rfl hl.1 rfl (lv_room (Nat.le_of_ble_eq_true rfl)) dL_law_760 ⟨(by show cells + 0 ≤ 601024; omega), (by show slots + 0 ≤ 7293034; omega)⟩) hP hD hS hA (fun r w H locs hp hP hD hS => ?_)
  have hP := hP.perm pca
  have hD := hD.perm pca
  refine lv_aload_n hx hb dL_law_763 rfl (lv_at hl 2 rfl) ?_
  refine la_i G hS hl (lv_at hl 4 rfl) (k := 1) rfl (by omega) dL_law_764 dL_law_765 dL_law_767 dL_law_768 dL_law_769 ?_
  refine la_l G hS hl (lv_at hl 4 rfl) (k := 2) rfl rfl (by omega) dL_law_770 dL_law_771 dL_law_773 dL_law_774 dL_law_775 dL_law_776 dL_law_777 dL_law_779 dL_law_780 dL_law_781 dL_law_783 dL_law_784 dL_law_785 dL_law_786 dL_law_787 dL_law_790 dL_law_791 ?_
  refine xci (va_runV (As := [.int (xs (i + 1)), .long (lng (xs (i + 2)) (xs (i + (2 + 1))))]) (rest := [.int r]) ⟨hx, hb, hml, hown, htl⟩ (mw_verify l E mo ad th kn nn mn dp am al pr ci (xs (i + 1)) (lng (xs (i + 2)) (xs (i + (2 + 1)))) (Rl.mok R0) R0.2.2.2.2.1 (fun j i h => (R0.2.2.2.2.2.1 j i h).1) R0.1.2 R0.1.1 R0.2.2.2.2.2.2.2.2.1 R0.2.2.2.2.2.2.2.2.2.1 H.size) (cwV 2 htl gL_law_X8_verify rfl rfl rfl (by decide +kernel) ⟨by decide, by decide⟩) ⟨CP.blind, va_recv hev.1 hP (ci := 9) (q0 := 0) rfl rfl, xpre hev hz hA hP hD hS hN hN2 [] rfl⟩ rfl rfl hl.1 rfl (lv_room (Nat.le_of_ble_eq_true rfl)) dL_law_792 ⟨(by show cells + 0 + 0 ≤ 601024; omega), (by show slots + 0 + 0 ≤ 7293034; omega)⟩) hP hD hS hA (fun r2 w2 H locs hm hP hD hS => ?_)
  obtain ⟨rfl, hLI⟩ := bd_verify R0 hp hm
  have hP := hP.perm pca
  have hD := hD.perm pca
  refine lv_icmp_eq (tgt := 1087) hx hb dL_law_795 (by decide) (fun _ => kk H locs _ _ w w2 fo ls hLI hP hD hS hl (by omega) (by omega)) (fun hne => absurd rfl hne)
set_option maxHeartbeats 4000000 in
set_option maxRecDepth 100000 in
theorem lc_update {p : Program} {l : Launch} {e : Env} {s : State} {m : MethodId} {below : List Frame} {meth : Method} {c : Code} {H : Heap} {locs : List Loc} {cells slots : Nat} {Q : State → Prop} {b L : Nat} {xs : Nat → Int32} {E : xE} {ls : Array Slot} {ax : Nat → Nat} {mo : Nat} {ad : Nat → Nat} {o i : Nat} {kn nn ln : Nat} {fs fu : Nat → Int64} {gi : Nat → Nat → Int32} {ra : Nat → Nat} {pr : Nat → RowP} {ci : Nat → Option Nat} {rev sea : Int32} {th : Int32} {mn dp : Nat} {am : Nat → Nat → Int32} {al : Nat → Nat → Int64} {fo : Nat → Int64} (G : LG p s m c b L xs E) (hi : i + 5 ≤ L) (R0 : Rl kn nn fs fu (gi 0) (gi 1) pr ci rev (gi 5) am al) (hP : va_P E.1 vwCl (CW E ax kn nn ln fs fu gi ra pr ci rev sea ++ (MW E mo ad th kn nn mn dp am al ++ [(o, aJ E 1 fo)])) H) (hD : va_D (lA s) (CW E ax kn nn ln fs fu gi ra pr ci rev sea ++ (MW E mo ad th kn nn mn dp am al ++ [(o, aJ E 1 fo)]))) (hS : va_S (lA s) s.heap H locs) (hl : lv_has ls 7 [(0, .ref b), (1, .ref (ax 0)), (2, .ref mo), (3, .ref o), (4, .int (nI i))]) (hc : cells + 13 ≤ 601024) (hs : slots + 96 ≤ 7293034) (kk : lKK p l e s m below meth c Q b E ax mo ad o i cells slots) : W p l e room_1 s m #[Value.ref b] below meth c H locs cells slots Q (F0 m 800 ls []) := by
  have G0 := G
  obtain ⟨hx, hb, hml, hown, hts, -, hev, hz⟩ := G0
  have htl : ∀ w ∈ wsL_law, w.before #[Value.ref b] s = true := fun w hw => hts w (wsL_law_all w hw)
  have hA : ∀ q : Nat, s.heap.size ≤ q → lA s q := fun q hq => hq
  have hN : va_P E.1 vwCl ([] : va_W) s.heap := va_P.of (fun q hq => by cases hq)
  have hN2 : ∀ q ∈ ([] : va_W), ¬ lA s q.1 := fun q hq => by cases hq
  refine lv_aload_n hx hb dL_law_800 rfl (lv_at hl 1 rfl) ?_
  refine la_i G hS hl (lv_at hl 4 rfl) (k := 1) rfl (by omega) dL_law_801 dL_law_802 dL_law_804 dL_law_805 dL_law_806 ?_
  refine la_l G hS hl (lv_at hl 4 rfl) (k := 2) rfl rfl (by omega) dL_law_807 dL_law_808 dL_law_810 dL_law_811 dL_law_812 dL_law_813 dL_law_814 dL_law_816 dL_law_817 dL_law_818 dL_law_820 dL_law_821 dL_law_822 dL_law_823 dL_law_824 dL_law_827 dL_law_828 ?_
  refine xci (va_runV (As := [.int (xs (i + 1)), .long (lng (xs (i + 2)) (xs (i + (2 + 1))))]) (rest := []) ⟨hx, hb, hml, hown, htl⟩ (cw_update l E ax kn nn ln fs fu gi ra pr ci rev sea (xs (i + 1)) (lng (xs (i + 2)) (xs (i + (2 + 1)))) R0.1.2 R0.1.1 (fun i hi => (R0.2.2.2.1 i hi).1.1) (fun j i h => (R0.2.2.2.2.2.1 j i h).1) H.size) (cwV 2 htl gL_law_X7_update rfl rfl rfl (by decide +kernel) ⟨by decide, by decide⟩) ⟨CP.blind, va_recv hev.1 hP (ci := 8) (q0 := 0) rfl rfl, xpre hev hz hA hP hD hS hN hN2 [] rfl⟩ rfl rfl hl.1 rfl (lv_room (Nat.le_of_ble_eq_true rfl)) dL_law_829 ⟨(by show cells + 0 ≤ 601024; omega), (by show slots + 0 ≤ 7293034; omega)⟩) hP hD hS hA (fun r w H locs hp hP hD hS => ?_)
  have hP := hP.perm pca
  have hD := hD.perm pca
  refine lv_aload_n hx hb dL_law_832 rfl (lv_at hl 2 rfl) ?_
  refine la_i G hS hl (lv_at hl 4 rfl) (k := 1) rfl (by omega) dL_law_833 dL_law_834 dL_law_836 dL_law_837 dL_law_838 ?_
  refine la_l G hS hl (lv_at hl 4 rfl) (k := 2) rfl rfl (by omega) dL_law_839 dL_law_840 dL_law_842 dL_law_843 dL_law_844 dL_law_845 dL_law_846 dL_law_848 dL_law_849 dL_law_850 dL_law_852 dL_law_853 dL_law_854 dL_law_855 dL_law_856 dL_law_859 dL_law_860 ?_
  refine xci (va_runV (As := [.int (xs (i + 1)), .long (lng (xs (i + 2)) (xs (i + (2 + 1))))]) (rest := [.int r]) ⟨hx, hb, hml, hown, htl⟩ (mw_update l E mo ad th kn nn mn dp am al pr ci (xs (i + 1)) (lng (xs (i + 2)) (xs (i + (2 + 1)))) (Rl.mok R0) R0.2.2.2.2.1 (fun j i h => (R0.2.2.2.2.2.1 j i h).1) R0.1.2 R0.1.1 R0.2.2.2.2.2.2.2.2.1 R0.2.2.2.2.2.2.2.2.2.1 H.size) (cwV 2 htl gL_law_X8_update rfl rfl rfl (by decide +kernel) ⟨by decide, by decide⟩) ⟨CP.blind, va_recv hev.1 hP (ci := 9) (q0 := 0) rfl rfl, xpre hev hz hA hP hD hS hN hN2 [] rfl⟩ rfl rfl hl.1 rfl (lv_room (Nat.le_of_ble_eq_true rfl)) dL_law_861 ⟨(by show cells + 0 + 0 ≤ 601024; omega), (by show slots + 0 + 0 ≤ 7293034; omega)⟩) hP hD hS hA (fun r2 w2 H locs hm hP hD hS => ?_)
  obtain ⟨rfl, hLI⟩ := bd_update R0 hp hm
  have hP := hP.perm pca
  have hD := hD.perm pca
  refine lv_icmp_eq (tgt := 1087) hx hb dL_law_864 (by decide) (fun _ => kk H locs _ _ w w2 fo ls hLI hP hD hS hl (by omega) (by omega)) (fun hne => absurd rfl hne)
