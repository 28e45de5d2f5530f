abbrev pX0_search10 (E : xE) (c0 : Nat) (cr : Nat) (rev : Int32) (sea : Int32) (ci : Nat → Option Nat) (N : Nat) (ra : Nat → Nat) (pr : Nat → RowP) (rl : Nat) (x : Int32) (r : Int32) (w : va_W) : Prop := ∃ (sea2 : Int32), w = [(c0, .inr (1, [.ref cr, .int rev, .int sea2]))] ∧ r = (srF ci pr x 0 rl sea).1 ∧ (sea2 = (srF ci pr x 0 rl sea).2)
set_option maxHeartbeats 4000000 in
set_option maxRecDepth 100000 in
theorem kX0_search10 (l : Launch) (E : xE) (c0 : Nat) (cr : Nat) (rev : Int32) (sea : Int32) (ci : Nat → Option Nat) (N : Nat) (ra : Nat → Nat) (pr : Nat → RowP) (rl : Nat) (x : Int32) (hrl : rl < 10) (hok : ∀ i, i < N → rOk (pr i)) (hci : ∀ j i, ci j = some i → i < N) (hto : ∀ k, k < N → ∀ i, i < (pr k).1 16 → isN ((pr k).2.2.2 6 i) 10) : KT l yX0_search wsX0_search 2 41 0 0 E [(c0, .inr (1, [.ref cr, .int rev, .int sea]))] ([(cr, aR E 10 (fun j => (ci j).map ra))] ++ rowsW E N ra pr) [.ref c0, .int (nI rl), .int x, .int 10] (QI E (pX0_search10 E c0 cr rev sea ci N ra pr rl x)) := by
  refine KT.start (cc := cX0_search) (maxL := 5) (ret := (some .int)) (by decide) rfl (Nat.le_of_ble_eq_true rfl) ?_
  intro p e s m below meth c A H hx hb hr hlocks hml hts hown hin hP hR0 hD hap hev hz hA hS ls hl
  have hl : lv_has ls 5 [(0, .ref c0), (1, .int (nI rl)), (2, .int x), (3, .int 10)] := hl
  refine lv_aload_n hx hb dX0_search_0 rfl (lv_at hl 0 rfl) ?_
  refine lv_iload_n hx hb dX0_search_1 rfl (lv_at hl 1 rfl) ?_
  have hP := hP.sub (ws' := [] ++ [(c0, .inr (1, [.ref cr, .int rev, .int sea]))]) [0] rfl
  have hD := hD.sub (ws' := [] ++ [(c0, .inr (1, [.ref cr, .int rev, .int sea]))]) [0] (by decide) rfl
  refine xcr (va_runV (As := [.int (nI rl)]) (rest := []) ⟨hx, hb, hml, hown, hts⟩ (kX0_currentOfJ l E c0 cr rev sea ci ra rl (by first | assumption | omega) H.size) (cwV 1 hts gX0_search_X0_currentOf rfl rfl rfl (by decide +kernel) ⟨Nat.le_of_ble_eq_true rfl, Nat.le_of_ble_eq_true rfl⟩) ⟨CP.blind, (va_recv hev.1 hP (ci := 1) (q0 := 0) rfl rfl), (xpre hev hz hA hP hD hS hR0 hap [0, 1] rfl)⟩ rfl rfl hl.1 rfl (lv_room (Nat.le_of_ble_eq_true rfl)) dX0_search_2 ⟨Nat.le_of_ble_eq_true rfl, Nat.le_of_ble_eq_true rfl⟩) hP hD hS hA (fun r1 w2 H locs h3 hP hD hS => ?_)
  obtain ⟨rfl, rfl, h3⟩ := h3
  try dsimp only at h3
  have hP : va_P E.1 vwCl [(c0, .inr (1, [.ref cr, .int rev, .int sea]))] H := hP
  have hD : va_D A [(c0, .inr (1, [.ref cr, .int rev, .int sea]))] := hD
  cases o4 : ci rl with
  | none =>
    refine lv_astoreN (lv' := [(4, .null), (0, .ref c0), (1, .int (nI rl)), (2, .int x), (3, .int 10)]) hx hb dX0_search_5 hl (by decide) rfl (fun ls hl => ?_)
    refine lv_aloadN hx hb dX0_search_7 (lv_at hl 0 rfl) ?_
    refine lv_ifnullN (tgt := 18) hx hb dX0_search_9 (by decide) ?_
    refine lv_iconst (v := (-1)) hx hb dX0_search_18 (by decide) ?_
    refine xri hx hb hr hlocks hP hD hS ⟨sea, rfl, ?_, ?_⟩ dX0_search_19
    · exact (congrArg Prod.fst (srF_none o4 0)).symm
    · exact (congrArg Prod.snd (srF_none o4 0)).symm
  | some kk =>
    have hap := xmoreA (L := [(ra kk, .inr (5, [.int ((pr kk).2.1 0), .int (nI ((pr kk).1 17)), .int ((pr kk).2.1 1), .long ((pr kk).2.2.1), .ref ((pr kk).1 0), .int (nI ((pr kk).1 12)), .ref ((pr kk).1 1), .ref ((pr kk).1 2), .ref ((pr kk).1 3), .ref ((pr kk).1 4), .int (nI ((pr kk).1 13)), .int (nI ((pr kk).1 14)), .int ((pr kk).2.1 2)])), ((pr kk).1 0, aB E 16 ((pr kk).2.2.2 0)), ((pr kk).1 1, .inr (4, [.ref ((pr kk).1 5), .ref ((pr kk).1 6)])), ((pr kk).1 5, aI E 10 ((pr kk).2.2.2 1)), ((pr kk).1 6, aI E 10 ((pr kk).2.2.2 2)), ((pr kk).1 2, .inr (7, [.ref ((pr kk).1 7), .ref ((pr kk).1 8), .int (nI ((pr kk).1 15))])), ((pr kk).1 7, aI E 7 ((pr kk).2.2.2 3)), ((pr kk).1 8, aI E 7 ((pr kk).2.2.2 4)), ((pr kk).1 3, .inr (2, [.ref ((pr kk).1 9), .ref ((pr kk).1 10), .ref ((pr kk).1 11), .int (nI ((pr kk).1 16))])), ((pr kk).1 9, aI E 6 ((pr kk).2.2.2 5)), ((pr kk).1 10, aI E 6 ((pr kk).2.2.2 6)), ((pr kk).1 11, aZ E 6 ((pr kk).2.2.2 7)), ((pr kk).1 4, aI E 6 ((pr kk).2.2.2 8))]) hap (fun q9 h9 => List.mem_append_right _ (rowsW_mem (E := E) (ra := ra) (pr := pr) (hci _ _ o4) q9 h9))
    have hR0 := xmore (L := [(ra kk, .inr (5, [.int ((pr kk).2.1 0), .int (nI ((pr kk).1 17)), .int ((pr kk).2.1 1), .long ((pr kk).2.2.1), .ref ((pr kk).1 0), .int (nI ((pr kk).1 12)), .ref ((pr kk).1 1), .ref ((pr kk).1 2), .ref ((pr kk).1 3), .ref ((pr kk).1 4), .int (nI ((pr kk).1 13)), .int (nI ((pr kk).1 14)), .int ((pr kk).2.1 2)])), ((pr kk).1 0, aB E 16 ((pr kk).2.2.2 0)), ((pr kk).1 1, .inr (4, [.ref ((pr kk).1 5), .ref ((pr kk).1 6)])), ((pr kk).1 5, aI E 10 ((pr kk).2.2.2 1)), ((pr kk).1 6, aI E 10 ((pr kk).2.2.2 2)), ((pr kk).1 2, .inr (7, [.ref ((pr kk).1 7), .ref ((pr kk).1 8), .int (nI ((pr kk).1 15))])), ((pr kk).1 7, aI E 7 ((pr kk).2.2.2 3)), ((pr kk).1 8, aI E 7 ((pr kk).2.2.2 4)), ((pr kk).1 3, .inr (2, [.ref ((pr kk).1 9), .ref ((pr kk).1 10), .ref ((pr kk).1 11), .int (nI ((pr kk).1 16))])), ((pr kk).1 9, aI E 6 ((pr kk).2.2.2 5)), ((pr kk).1 10, aI E 6 ((pr kk).2.2.2 6)), ((pr kk).1 11, aZ E 6 ((pr kk).2.2.2 7)), ((pr kk).1 4, aI E 6 ((pr kk).2.2.2 8))]) hR0 (fun q9 h9 => List.mem_append_right _ (rowsW_mem (E := E) (ra := ra) (pr := pr) (hci _ _ o4) q9 h9))
    have hap : ∀ q ∈ ([(ra kk, .inr (5, [.int ((pr kk).2.1 0), .int (nI ((pr kk).1 17)), .int ((pr kk).2.1 1), .long ((pr kk).2.2.1), .ref ((pr kk).1 0), .int (nI ((pr kk).1 12)), .ref ((pr kk).1 1), .ref ((pr kk).1 2), .ref ((pr kk).1 3), .ref ((pr kk).1 4), .int (nI ((pr kk).1 13)), .int (nI ((pr kk).1 14)), .int ((pr kk).2.1 2)])), ((pr kk).1 0, aB E 16 ((pr kk).2.2.2 0)), ((pr kk).1 1, .inr (4, [.ref ((pr kk).1 5), .ref ((pr kk).1 6)])), ((pr kk).1 5, aI E 10 ((pr kk).2.2.2 1)), ((pr kk).1 6, aI E 10 ((pr kk).2.2.2 2)), ((pr kk).1 2, .inr (7, [.ref ((pr kk).1 7), .ref ((pr kk).1 8), .int (nI ((pr kk).1 15))])), ((pr kk).1 7, aI E 7 ((pr kk).2.2.2 3)), ((pr kk).1 8, aI E 7 ((pr kk).2.2.2 4)), ((pr kk).1 3, .inr (2, [.ref ((pr kk).1 9), .ref ((pr kk).1 10), .ref ((pr kk).1 11), .int (nI ((pr kk).1 16))])), ((pr kk).1 9, aI E 6 ((pr kk).2.2.2 5)), ((pr kk).1 10, aI E 6 ((pr kk).2.2.2 6)), ((pr kk).1 11, aZ E 6 ((pr kk).2.2.2 7)), ((pr kk).1 4, aI E 6 ((pr kk).2.2.2 8)), (cr, aR E 10 (fun j => (ci j).map ra))] ++ rowsW E N ra pr), ¬ A q.1 := hap
    have hR0 : va_P E.1 vwCl ([(ra kk, .inr (5, [.int ((pr kk).2.1 0), .int (nI ((pr kk).1 17)), .int ((pr kk).2.1 1), .long ((pr kk).2.2.1), .ref ((pr kk).1 0), .int (nI ((pr kk).1 12)), .ref ((pr kk).1 1), .ref ((pr kk).1 2), .ref ((pr kk).1 3), .ref ((pr kk).1 4), .int (nI ((pr kk).1 13)), .int (nI ((pr kk).1 14)), .int ((pr kk).2.1 2)])), ((pr kk).1 0, aB E 16 ((pr kk).2.2.2 0)), ((pr kk).1 1, .inr (4, [.ref ((pr kk).1 5), .ref ((pr kk).1 6)])), ((pr kk).1 5, aI E 10 ((pr kk).2.2.2 1)), ((pr kk).1 6, aI E 10 ((pr kk).2.2.2 2)), ((pr kk).1 2, .inr (7, [.ref ((pr kk).1 7), .ref ((pr kk).1 8), .int (nI ((pr kk).1 15))])), ((pr kk).1 7, aI E 7 ((pr kk).2.2.2 3)), ((pr kk).1 8, aI E 7 ((pr kk).2.2.2 4)), ((pr kk).1 3, .inr (2, [.ref ((pr kk).1 9), .ref ((pr kk).1 10), .ref ((pr kk).1 11), .int (nI ((pr kk).1 16))])), ((pr kk).1 9, aI E 6 ((pr kk).2.2.2 5)), ((pr kk).1 10, aI E 6 ((pr kk).2.2.2 6)), ((pr kk).1 11, aZ E 6 ((pr kk).2.2.2 7)), ((pr kk).1 4, aI E 6 ((pr kk).2.2.2 8)), (cr, aR E 10 (fun j => (ci j).map ra))] ++ rowsW E N ra pr) s.heap := hR0
    have hltkk : kk < N := hci _ _ o4
    obtain ⟨o12kk, o13kk, o14kk, o15kk, o16kk, o17kk⟩ := hok kk (hci _ _ o4)
    refine lv_astore (lv' := [(4, .ref (ra kk)), (0, .ref c0), (1, .int (nI rl)), (2, .int x), (3, .int 10)]) hx hb dX0_search_5 hl (by decide) rfl (fun ls hl => ?_)
    refine lv_aload hx hb dX0_search_7 (lv_at hl 0 rfl) ?_
    refine lv_ifnull hx hb dX0_search_9 ?_
    refine lv_iload_n hx hb dX0_search_12 rfl (lv_at hl 4 rfl) ?_
    refine lv_bipush (v := 10) hx hb dX0_search_13 (by decide) ?_
    refine lv_icmp_lt (tgt := 20) hx hb dX0_search_15 (by decide) (fun c5 => absurd c5 (by decide)) (fun c5 => ?_)
    refine lv_iconst (v := (-1)) hx hb dX0_search_18 (by decide) ?_
    refine xri hx hb hr hlocks hP hD hS ⟨sea, rfl, ?_, ?_⟩ dX0_search_19
    · rfl
    · rfl

abbrev pX0_follow9 (E : xE) (c0 : Nat) (cr : Nat) (rev : Int32) (sea : Int32) (ci : Nat → Option Nat) (N : Nat) (ra : Nat → Nat) (pr : Nat → RowP) (k : Nat) (x : Int32) (r : Int32) (w : va_W) : Prop := ∃ (sea2 : Int32), w = [(c0, .inr (1, [.ref cr, .int rev, .int sea2]))] ∧ r = (folF (srF ci pr x 0) (pr k) x ((pr k).1 16) 0 sea).1 ∧ (sea2 = (folF (srF ci pr x 0) (pr k) x ((pr k).1 16) 0 sea).2)
set_option maxHeartbeats 4000000 in
set_option maxRecDepth 100000 in
theorem kX0_follow9 (l : Launch) (E : xE) (c0 : Nat) (cr : Nat) (rev : Int32) (sea : Int32) (ci : Nat → Option Nat) (N : Nat) (ra : Nat → Nat) (pr : Nat → RowP) (k : Nat) (x : Int32) (hk : k < N) (hok : ∀ i, i < N → rOk (pr i)) (hci : ∀ j i, ci j = some i → i < N) (hto : ∀ k, k < N → ∀ i, i < (pr k).1 16 → isN ((pr k).2.2.2 6 i) 10) : KT l yX0_followDelegations wsX0_followDelegations 3 71 0 0 E [(c0, .inr (1, [.ref cr, .int rev, .int sea]))] ([(cr, aR E 10 (fun j => (ci j).map ra))] ++ rowsW E N ra pr) [.ref c0, .ref ((pr k).1 3), .int x, .int 9] (QI E (pX0_follow9 E c0 cr rev sea ci N ra pr k x)) := by
  refine KT.start (cc := cX0_followDelegations) (maxL := 7) (ret := (some .int)) (by decide) rfl (Nat.le_of_ble_eq_true rfl) ?_
  intro p e s m below meth c A H hx hb hr hlocks hml hts hown hin hP hR0 hD hap hev hz hA hS ls hl
  have hl : lv_has ls 7 [(0, .ref c0), (1, .ref ((pr k).1 3)), (2, .int x), (3, .int 9)] := hl
  have hiX1 : ∀ w ∈ wsX10, w ∈ wsX0_followDelegations := by decide +kernel
  have hiniX7 := hts (.initialized RX7) (by decide +kernel)
  have hstX7_fits := hts (.static yX7_fits) (by decide +kernel)
  have hi9 := hk
  have hap := xmoreA (L := [(ra k, .inr (5, [.int ((pr k).2.1 0), .int (nI ((pr k).1 17)), .int ((pr k).2.1 1), .long ((pr k).2.2.1), .ref ((pr k).1 0), .int (nI ((pr k).1 12)), .ref ((pr k).1 1), .ref ((pr k).1 2), .ref ((pr k).1 3), .ref ((pr k).1 4), .int (nI ((pr k).1 13)), .int (nI ((pr k).1 14)), .int ((pr k).2.1 2)])), ((pr k).1 0, aB E 16 ((pr k).2.2.2 0)), ((pr k).1 1, .inr (4, [.ref ((pr k).1 5), .ref ((pr k).1 6)])), ((pr k).1 5, aI E 10 ((pr k).2.2.2 1)), ((pr k).1 6, aI E 10 ((pr k).2.2.2 2)), ((pr k).1 2, .inr (7, [.ref ((pr k).1 7), .ref ((pr k).1 8), .int (nI ((pr k).1 15))])), ((pr k).1 7, aI E 7 ((pr k).2.2.2 3)), ((pr k).1 8, aI E 7 ((pr k).2.2.2 4)), ((pr k).1 3, .inr (2, [.ref ((pr k).1 9), .ref ((pr k).1 10), .ref ((pr k).1 11), .int (nI ((pr k).1 16))])), ((pr k).1 9, aI E 6 ((pr k).2.2.2 5)), ((pr k).1 10, aI E 6 ((pr k).2.2.2 6)), ((pr k).1 11, aZ E 6 ((pr k).2.2.2 7)), ((pr k).1 4, aI E 6 ((pr k).2.2.2 8))]) hap (fun q9 h9 => List.mem_append_right _ (rowsW_mem (E := E) (ra := ra) (pr := pr) (hk) q9 h9))
  have hR0 := xmore (L := [(ra k, .inr (5, [.int ((pr k).2.1 0), .int (nI ((pr k).1 17)), .int ((pr k).2.1 1), .long ((pr k).2.2.1), .ref ((pr k).1 0), .int (nI ((pr k).1 12)), .ref ((pr k).1 1), .ref ((pr k).1 2), .ref ((pr k).1 3), .ref ((pr k).1 4), .int (nI ((pr k).1 13)), .int (nI ((pr k).1 14)), .int ((pr k).2.1 2)])), ((pr k).1 0, aB E 16 ((pr k).2.2.2 0)), ((pr k).1 1, .inr (4, [.ref ((pr k).1 5), .ref ((pr k).1 6)])), ((pr k).1 5, aI E 10 ((pr k).2.2.2 1)), ((pr k).1 6, aI E 10 ((pr k).2.2.2 2)), ((pr k).1 2, .inr (7, [.ref ((pr k).1 7), .ref ((pr k).1 8), .int (nI ((pr k).1 15))])), ((pr k).1 7, aI E 7 ((pr k).2.2.2 3)), ((pr k).1 8, aI E 7 ((pr k).2.2.2 4)), ((pr k).1 3, .inr (2, [.ref ((pr k).1 9), .ref ((pr k).1 10), .ref ((pr k).1 11), .int (nI ((pr k).1 16))])), ((pr k).1 9, aI E 6 ((pr k).2.2.2 5)), ((pr k).1 10, aI E 6 ((pr k).2.2.2 6)), ((pr k).1 11, aZ E 6 ((pr k).2.2.2 7)), ((pr k).1 4, aI E 6 ((pr k).2.2.2 8))]) hR0 (fun q9 h9 => List.mem_append_right _ (rowsW_mem (E := E) (ra := ra) (pr := pr) (hk) q9 h9))
  have hap : ∀ q ∈ ([(ra k, .inr (5, [.int ((pr k).2.1 0), .int (nI ((pr k).1 17)), .int ((pr k).2.1 1), .long ((pr k).2.2.1), .ref ((pr k).1 0), .int (nI ((pr k).1 12)), .ref ((pr k).1 1), .ref ((pr k).1 2), .ref ((pr k).1 3), .ref ((pr k).1 4), .int (nI ((pr k).1 13)), .int (nI ((pr k).1 14)), .int ((pr k).2.1 2)])), ((pr k).1 0, aB E 16 ((pr k).2.2.2 0)), ((pr k).1 1, .inr (4, [.ref ((pr k).1 5), .ref ((pr k).1 6)])), ((pr k).1 5, aI E 10 ((pr k).2.2.2 1)), ((pr k).1 6, aI E 10 ((pr k).2.2.2 2)), ((pr k).1 2, .inr (7, [.ref ((pr k).1 7), .ref ((pr k).1 8), .int (nI ((pr k).1 15))])), ((pr k).1 7, aI E 7 ((pr k).2.2.2 3)), ((pr k).1 8, aI E 7 ((pr k).2.2.2 4)), ((pr k).1 3, .inr (2, [.ref ((pr k).1 9), .ref ((pr k).1 10), .ref ((pr k).1 11), .int (nI ((pr k).1 16))])), ((pr k).1 9, aI E 6 ((pr k).2.2.2 5)), ((pr k).1 10, aI E 6 ((pr k).2.2.2 6)), ((pr k).1 11, aZ E 6 ((pr k).2.2.2 7)), ((pr k).1 4, aI E 6 ((pr k).2.2.2 8)), (cr, aR E 10 (fun j => (ci j).map ra))] ++ rowsW E N ra pr), ¬ A q.1 := hap
  have hR0 : va_P E.1 vwCl ([(ra k, .inr (5, [.int ((pr k).2.1 0), .int (nI ((pr k).1 17)), .int ((pr k).2.1 1), .long ((pr k).2.2.1), .ref ((pr k).1 0), .int (nI ((pr k).1 12)), .ref ((pr k).1 1), .ref ((pr k).1 2), .ref ((pr k).1 3), .ref ((pr k).1 4), .int (nI ((pr k).1 13)), .int (nI ((pr k).1 14)), .int ((pr k).2.1 2)])), ((pr k).1 0, aB E 16 ((pr k).2.2.2 0)), ((pr k).1 1, .inr (4, [.ref ((pr k).1 5), .ref ((pr k).1 6)])), ((pr k).1 5, aI E 10 ((pr k).2.2.2 1)), ((pr k).1 6, aI E 10 ((pr k).2.2.2 2)), ((pr k).1 2, .inr (7, [.ref ((pr k).1 7), .ref ((pr k).1 8), .int (nI ((pr k).1 15))])), ((pr k).1 7, aI E 7 ((pr k).2.2.2 3)), ((pr k).1 8, aI E 7 ((pr k).2.2.2 4)), ((pr k).1 3, .inr (2, [.ref ((pr k).1 9), .ref ((pr k).1 10), .ref ((pr k).1 11), .int (nI ((pr k).1 16))])), ((pr k).1 9, aI E 6 ((pr k).2.2.2 5)), ((pr k).1 10, aI E 6 ((pr k).2.2.2 6)), ((pr k).1 11, aZ E 6 ((pr k).2.2.2 7)), ((pr k).1 4, aI E 6 ((pr k).2.2.2 8)), (cr, aR E 10 (fun j => (ci j).map ra))] ++ rowsW E N ra pr) s.heap := hR0
  have hltk : k < N := hk
  obtain ⟨o12k, o13k, o14k, o15k, o16k, o17k⟩ := hok k (hk)
  refine lv_iconst (v := 0) hx hb dX0_followDelegations_0 (by decide) ?_
  refine lv_istore (lv' := [(4, .int 0), (0, .ref c0), (1, .ref ((pr k).1 3)), (2, .int x), (3, .int 9)]) hx hb dX0_followDelegations_1 hl (by decide) rfl (fun ls hl => ?_)
  have loop3 : ∀ (fz3 : Nat) (i : Nat) (m9 : Int32), (i ≤ (pr k).1 16) → (folF (srF ci pr x 0) (pr k) x ((pr k).1 16 - i) i m9 = folF (srF ci pr x 0) (pr k) x ((pr k).1 16) 0 sea) → ((pr k).1 16 - i < fz3) → ∀ (H : Heap) (locs : List Loc), va_P E.1 vwCl [(c0, .inr (1, [.ref cr, .int rev, .int m9]))] H → va_D A [(c0, .inr (1, [.ref cr, .int rev, .int m9]))] → va_S A s.heap H locs → ∀ ls : Array Slot, lv_has ls 7 [(4, .int (nI i)), (0, .ref c0), (1, .ref ((pr k).1 3)), (2, .int x), (3, .int 9)] → W p l e ({ frames := 3, cells := 0, slots := 0, locals := 71 } : Room) s m ([.ref c0, .ref ((pr k).1 3), .int x, .int 9] : List Value).toArray below meth c H locs 0 0 (MQ below (QI E (pX0_follow9 E c0 cr rev sea ci N ra pr k x) A) ([.ref c0, .ref ((pr k).1 3), .int x, .int 9] : List Value).toArray s 0 0 A) (F0 m 3 ls []) := by
    intro fz3
    induction fz3 with
    | zero =>
      intro i m9 hi he hfuel
      exact absurd hfuel (by omega)
    | succ fz3 ih3 =>
      intro i m9 hi he hfuel H locs hP hD hS ls hl
      refine lv_iload hx hb dX0_followDelegations_3 (lv_at hl 0 rfl) ?_
      refine lv_aload_n hx hb dX0_followDelegations_5 rfl (lv_at hl 2 rfl) ?_
      refine va_getN (D := E.1) (ci := 2) (v := .int (nI ((pr k).1 16))) (C := RX1) (T := TX1) (N := 4) hx hb hts hiX1 hown hev.1 (xro hR0 hap hS) 8 rfl rfl 3 (by decide) (xNF4 hev.2.1) (fun _ h9 => h9) rfl dX0_followDelegations_6 ?_
      refine lv_icmp_ge (tgt := 91) hx hb dX0_followDelegations_9 (by decide) (fun c1 => ?_) (fun c1 => ?_)
      · skip
        have kc1 : ((pr k).1 16) ≤ i := (nI_leI (a := ((pr k).1 16)) (b := i) (by omega) (by omega)).mp c1
        refine lv_iconst (v := (-1)) hx hb dX0_followDelegations_91 (by decide) ?_
        refine xri hx hb hr hlocks hP hD hS ⟨m9, rfl, ?_, ?_⟩ dX0_followDelegations_92
        · exact congrArg Prod.fst ((fo_end (by omega)).symm.trans he)
        · exact congrArg Prod.snd ((fo_end (by omega)).symm.trans he)
      · skip
        have kc1 : ¬ ((pr k).1 16) ≤ i := fun h9 => c1 ((nI_leI (a := ((pr k).1 16)) (b := i) (by omega) (by omega)).mpr h9)
        refine lv_aload_n hx hb dX0_followDelegations_12 rfl (lv_at hl 2 rfl) ?_
        refine va_getN (D := E.1) (ci := 2) (v := .ref ((pr k).1 9)) (C := RX1) (T := TX1) (N := 4) hx hb hts hiX1 hown hev.1 (xro hR0 hap hS) 8 rfl rfl 0 (by decide) (xNF1 hev.2.1) (fun _ h9 => h9) rfl dX0_followDelegations_13 ?_
        refine lv_iload hx hb dX0_followDelegations_16 (lv_at hl 0 rfl) ?_
        refine xiald (k := (i)) hx hb hev.1 (xro hR0 hap hS) 9 1 rfl rfl (by omega) (by decide) dX0_followDelegations_18 ?_
        refine lv_iload_n hx hb dX0_followDelegations_19 rfl (lv_at hl 3 rfl) ?_
        have hP := hP.sub (ws' := [] ++ [(c0, .inr (1, [.ref cr, .int rev, .int m9]))]) [0] rfl
        have hD := hD.sub (ws' := [] ++ [(c0, .inr (1, [.ref cr, .int rev, .int m9]))]) [0] (by decide) rfl
        refine xci (va_runSN (As := [.int (((pr k).2.2.2 5) i), .int x]) (rest := []) ⟨hx, hb, hml, hown, hts⟩ (kX7_fits l E (((pr k).2.2.2 5) i) x  H.size) ⟨va_cnB 2 hts gX0_followDelegations_X7_fits_n108 rfl rfl rfl (xNM6 hev.2.1) hiniX7 (by decide +kernel) ⟨Nat.le_of_ble_eq_true rfl, Nat.le_of_ble_eq_true rfl⟩, hstX7_fits, trivial⟩ ⟨CP.blind, (xpre hev hz hA hP hD hS hR0 hap [] rfl)⟩ rfl rfl hl.1 rfl (lv_room (Nat.le_of_ble_eq_true rfl)) dX0_followDelegations_20 ⟨Nat.le_of_ble_eq_true rfl, Nat.le_of_ble_eq_true rfl⟩) hP hD hS hA (fun r2 w3 H locs h4 hP hD hS => ?_)
        obtain ⟨rfl, rfl, h4⟩ := h4
        try dsimp only at h4
        have hP : va_P E.1 vwCl [(c0, .inr (1, [.ref cr, .int rev, .int m9]))] H := hP
        have hD : va_D A [(c0, .inr (1, [.ref cr, .int rev, .int m9]))] := hD
        refine lv_if_ne (tgt := 29) hx hb dX0_followDelegations_23 (by decide) (fun c5 => ?_) (fun c5 => ?_)
        · skip
          have kc5 := b1_n.mp c5
          refine lv_aload_n hx hb dX0_followDelegations_29 rfl (lv_at hl 2 rfl) ?_
          refine va_getN (D := E.1) (ci := 2) (v := .ref ((pr k).1 10)) (C := RX1) (T := TX1) (N := 4) hx hb hts hiX1 hown hev.1 (xro hR0 hap hS) 8 rfl rfl 1 (by decide) (xNF2 hev.2.1) (fun _ h9 => h9) rfl dX0_followDelegations_30 ?_
          refine lv_iload hx hb dX0_followDelegations_33 (lv_at hl 0 rfl) ?_
          refine xiald (k := (i)) hx hb hev.1 (xro hR0 hap hS) 10 1 rfl rfl (by omega) (by decide) dX0_followDelegations_35 ?_
          obtain ⟨to6, hto6, eto⟩ := hto k hk i (by omega)
          refine xtop (y := nI to6) (eto) ?_
          refine lv_istore (lv' := [(5, .int (nI to6)), (4, .int (nI i)), (0, .ref c0), (1, .ref ((pr k).1 3)), (2, .int x), (3, .int 9)]) hx hb dX0_followDelegations_36 hl (by decide) rfl (fun ls hl => ?_)
          refine lv_aload_n hx hb dX0_followDelegations_38 rfl (lv_at hl 2 rfl) ?_
          refine lv_iload hx hb dX0_followDelegations_39 (lv_at hl 0 rfl) ?_
          have hP := hP.sub (ws' := [] ++ [(c0, .inr (1, [.ref cr, .int rev, .int m9]))]) [0] rfl
          have hD := hD.sub (ws' := [] ++ [(c0, .inr (1, [.ref cr, .int rev, .int m9]))]) [0] (by decide) rfl
          refine xci (va_runV (As := [.int (nI to6)]) (rest := []) ⟨hx, hb, hml, hown, hts⟩ (kX0_isSearched l E c0 cr rev m9 (nI to6)  H.size) (cwV 1 hts gX0_followDelegations_X0_isSearched rfl rfl rfl (by decide +kernel) ⟨Nat.le_of_ble_eq_true rfl, Nat.le_of_ble_eq_true rfl⟩) ⟨CP.blind, (va_recv hev.1 hP (ci := 1) (q0 := 0) rfl rfl), (xpre hev hz hA hP hD hS hR0 hap [0] rfl)⟩ rfl rfl hl.1 rfl (lv_room (Nat.le_of_ble_eq_true rfl)) dX0_followDelegations_41 ⟨Nat.le_of_ble_eq_true rfl, Nat.le_of_ble_eq_true rfl⟩) hP hD hS hA (fun r7 w8 H locs h9 hP hD hS => ?_)
          obtain ⟨rfl, rfl, h9⟩ := h9
          try dsimp only at h9
          have hP : va_P E.1 vwCl [(c0, .inr (1, [.ref cr, .int rev, .int m9]))] H := hP
          have hD : va_D A [(c0, .inr (1, [.ref cr, .int rev, .int m9]))] := hD
          refine lv_if_eq (tgt := 51) hx hb dX0_followDelegations_44 (by decide) (fun c10 => ?_) (fun c10 => ?_)
          · skip
            have kc10 := b1_0.mp c10
            refine lv_aload_n hx hb dX0_followDelegations_51 rfl (lv_at hl 2 rfl) ?_
            refine lv_iload hx hb dX0_followDelegations_52 (lv_at hl 0 rfl) ?_
            refine lv_iload_n hx hb dX0_followDelegations_54 rfl (lv_at hl 4 rfl) ?_
            refine lv_iload_n hx hb dX0_followDelegations_55 rfl (lv_at hl 5 rfl) ?_
            refine lv_iconst (v := 1) hx hb dX0_followDelegations_56 (by decide) ?_
            refine lv_iadd hx hb dX0_followDelegations_57 ?_
            refine xtop (y := 10) (by decide) ?_
            have hP := hP.sub (ws' := [(c0, .inr (1, [.ref cr, .int rev, .int m9]))] ++ []) [0] rfl
            have hD := hD.sub (ws' := [(c0, .inr (1, [.ref cr, .int rev, .int m9]))] ++ []) [0] (by decide) rfl
            refine xci (va_runV (As := [.int (nI to6), .int x, .int 10]) (rest := []) ⟨hx, hb, hml, hown, hts⟩ (kX0_search10 l E c0 cr rev m9 ci N ra pr to6 x (by first | assumption | omega) (by first | assumption | omega) (by first | assumption | omega) (by first | assumption | omega) H.size) (cwV 3 hts gX0_followDelegations_X0_search rfl rfl rfl (by decide +kernel) ⟨Nat.le_of_ble_eq_true rfl, Nat.le_of_ble_eq_true rfl⟩) ⟨CP.blind, (va_recv hev.1 hP.left (ci := 1) (q0 := 0) rfl rfl), (xpreT (X := rowsW E N ra pr) hev hz hA hP hD hS hR0 hap [13] rfl (fun q9 h9 => List.mem_append_right _ h9))⟩ rfl rfl hl.1 rfl (lv_room (Nat.le_of_ble_eq_true rfl)) dX0_followDelegations_58 ⟨Nat.le_of_ble_eq_true rfl, Nat.le_of_ble_eq_true rfl⟩) hP hD hS hA (fun r11 w12 H locs h13 hP hD hS => ?_)
            obtain ⟨sea214, rfl, rfl, h13⟩ := h13
            try dsimp only at h13
            have hP : va_P E.1 vwCl [(c0, .inr (1, [.ref cr, .int rev, .int sea214]))] H := hP
            have hD : va_D A [(c0, .inr (1, [.ref cr, .int rev, .int sea214]))] := hD
            refine lv_istore (lv' := [(6, .int ((srF ci pr x 0 to6 m9).1)), (5, .int (nI to6)), (4, .int (nI i)), (0, .ref c0), (1, .ref ((pr k).1 3)), (2, .int x), (3, .int 9)]) hx hb dX0_followDelegations_61 hl (by decide) rfl (fun ls hl => ?_)
            refine lv_iload hx hb dX0_followDelegations_63 (lv_at hl 0 rfl) ?_
            refine lv_iconst (v := (-1)) hx hb dX0_followDelegations_65 (by decide) ?_
            refine lv_icmp_eq (tgt := 72) hx hb dX0_followDelegations_66 (by decide) (fun c15 => ?_) (fun c15 => ?_)
            · skip
              refine lv_aload_n hx hb dX0_followDelegations_72 rfl (lv_at hl 4 rfl) ?_
              refine va_getN (D := E.1) (ci := 2) (v := .ref ((pr k).1 11)) (C := RX1) (T := TX1) (N := 4) hx hb hts hiX1 hown hev.1 (xro hR0 hap hS) 8 rfl rfl 2 (by decide) (xNF3 hev.2.1) (fun _ h9 => h9) rfl dX0_followDelegations_73 ?_
              refine lv_iload hx hb dX0_followDelegations_76 (lv_at hl 2 rfl) ?_
              refine xzald (k := (i)) hx hb hev.1 (xro hR0 hap hS) 11 3 rfl rfl (by omega) (by decide) dX0_followDelegations_78 ?_
              refine lv_if_eq (tgt := 85) hx hb dX0_followDelegations_79 (by decide) (fun c16 => ?_) (fun c16 => ?_)
              · skip
                refine lv_iinc (v := nI (i + 1)) (lv' := [(4, .int (nI (i + 1))), (6, .int ((srF ci pr x 0 to6 m9).1)), (5, .int (nI to6)), (0, .ref c0), (1, .ref ((pr k).1 3)), (2, .int x), (3, .int 9)]) hx hb dX0_followDelegations_85 hl (k := 2) rfl ((nI_add i 1).trans (congrArg nI (by omega))) (by decide) rfl (fun ls hl => ?_)
                refine lv_goto (tgt := 3) hx hb dX0_followDelegations_88 (by decide) ?_
                exact ih3  (i + 1) sea214 (by omega) (((fo_next (a := (srF ci pr x 0 to6 m9)) (by omega) kc5 (by rw [eto]; exact nI_clamp (by omega)) (pk2_f kc10) c15 c16).trans (by rw [← h13])).symm.trans he) (by omega) _ _ hP hD hS ls (lv_sub hl [0, 3, 4, 5, 6] rfl)
              · skip
                refine lv_bipush (v := (-2)) hx hb dX0_followDelegations_82 (by decide) ?_
                refine xri hx hb hr hlocks hP hD hS ⟨sea214, rfl, ?_, ?_⟩ dX0_followDelegations_84
                · exact congrArg Prod.fst ((fo_over (a := (srF ci pr x 0 to6 m9)) (by omega) kc5 (by rw [eto]; exact nI_clamp (by omega)) (pk2_f kc10) c15 c16).symm.trans he)
                · have q9 := congrArg Prod.snd ((fo_over (a := (srF ci pr x 0 to6 m9)) (by omega) kc5 (by rw [eto]; exact nI_clamp (by omega)) (pk2_f kc10) c15 c16).symm.trans he)
                  exact h13.trans q9
            · skip
              refine lv_iload hx hb dX0_followDelegations_69 (lv_at hl 0 rfl) ?_
              refine xri hx hb hr hlocks hP hD hS ⟨sea214, rfl, ?_, ?_⟩ dX0_followDelegations_71
              · exact (congrArg Prod.fst ((fo_hit (a := (srF ci pr x 0 to6 m9)) (by omega) kc5 (by rw [eto]; exact nI_clamp (by omega)) (pk2_f kc10) c15).symm.trans he))
              · exact h13.trans (congrArg Prod.snd ((fo_hit (a := (srF ci pr x 0 to6 m9)) (by omega) kc5 (by rw [eto]; exact nI_clamp (by omega)) (pk2_f kc10) c15).symm.trans he))
          · skip
            have kc10 := b1_n.mp c10
            refine lv_iconst (v := (-1)) hx hb dX0_followDelegations_47 (by decide) ?_
            refine lv_goto (tgt := 61) hx hb dX0_followDelegations_48 (by decide) ?_
            refine lv_istore (lv' := [(6, .int (-1)), (5, .int (nI to6)), (4, .int (nI i)), (0, .ref c0), (1, .ref ((pr k).1 3)), (2, .int x), (3, .int 9)]) hx hb dX0_followDelegations_61 hl (by decide) rfl (fun ls hl => ?_)
            refine lv_iload hx hb dX0_followDelegations_63 (lv_at hl 0 rfl) ?_
            refine lv_iconst (v := (-1)) hx hb dX0_followDelegations_65 (by decide) ?_
            refine lv_icmp_eq (tgt := 72) hx hb dX0_followDelegations_66 (by decide) (fun c17 => ?_) (fun c17 => absurd (by decide) c17)
            refine lv_aload_n hx hb dX0_followDelegations_72 rfl (lv_at hl 4 rfl) ?_
            refine va_getN (D := E.1) (ci := 2) (v := .ref ((pr k).1 11)) (C := RX1) (T := TX1) (N := 4) hx hb hts hiX1 hown hev.1 (xro hR0 hap hS) 8 rfl rfl 2 (by decide) (xNF3 hev.2.1) (fun _ h9 => h9) rfl dX0_followDelegations_73 ?_
            refine lv_iload hx hb dX0_followDelegations_76 (lv_at hl 2 rfl) ?_
            refine xzald (k := (i)) hx hb hev.1 (xro hR0 hap hS) 11 3 rfl rfl (by omega) (by decide) dX0_followDelegations_78 ?_
            refine lv_if_eq (tgt := 85) hx hb dX0_followDelegations_79 (by decide) (fun c18 => ?_) (fun c18 => ?_)
            · skip
              refine lv_iinc (v := nI (i + 1)) (lv' := [(4, .int (nI (i + 1))), (6, .int (-1)), (5, .int (nI to6)), (0, .ref c0), (1, .ref ((pr k).1 3)), (2, .int x), (3, .int 9)]) hx hb dX0_followDelegations_85 hl (k := 2) rfl ((nI_add i 1).trans (congrArg nI (by omega))) (by decide) rfl (fun ls hl => ?_)
              refine lv_goto (tgt := 3) hx hb dX0_followDelegations_88 (by decide) ?_
              exact ih3  (i + 1) m9 (by omega) ((fo_next (a := (-1, m9)) (by omega) kc5 (by rw [eto]; exact nI_clamp (by omega)) (pk2_t kc10) rfl c18).symm.trans he) (by omega) _ _ hP hD hS ls (lv_sub hl [0, 3, 4, 5, 6] rfl)
            · skip
              refine lv_bipush (v := (-2)) hx hb dX0_followDelegations_82 (by decide) ?_
              refine xri hx hb hr hlocks hP hD hS ⟨m9, rfl, ?_, ?_⟩ dX0_followDelegations_84
              · exact congrArg Prod.fst ((fo_over (a := (-1, m9)) (by omega) kc5 (by rw [eto]; exact nI_clamp (by omega)) (pk2_t kc10) rfl c18).symm.trans he)
              · exact congrArg Prod.snd ((fo_over (a := (-1, m9)) (by omega) kc5 (by rw [eto]; exact nI_clamp (by omega)) (pk2_t kc10) rfl c18).symm.trans he)
        · skip
          have kc5 := b1_0.mp c5
          refine lv_goto (tgt := 85) hx hb dX0_followDelegations_26 (by decide) ?_
          refine lv_iinc (v := nI (i + 1)) (lv' := [(4, .int (nI (i + 1))), (0, .ref c0), (1, .ref ((pr k).1 3)), (2, .int x), (3, .int 9)]) hx hb dX0_followDelegations_85 hl (k := 0) rfl ((nI_add i 1).trans (congrArg nI (by omega))) (by decide) rfl (fun ls hl => ?_)
          refine lv_goto (tgt := 3) hx hb dX0_followDelegations_88 (by decide) ?_
          exact ih3  (i + 1) m9 (by omega) ((fo_skip (by omega) kc5).symm.trans he) (by omega) _ _ hP hD hS ls (lv_sub hl [0, 1, 2, 3, 4] rfl)
  exact loop3 ((pr k).1 16 + 1) 0 sea (by omega) (rfl) (by omega) _ _ hP hD hS ls (lv_sub hl [0, 1, 2, 3, 4] rfl)

abbrev pX0_search9 (E : xE) (c0 : Nat) (cr : Nat) (rev : Int32) (sea : Int32) (ci : Nat → Option Nat) (N : Nat) (ra : Nat → Nat) (pr : Nat → RowP) (rl : Nat) (x : Int32) (r : Int32) (w : va_W) : Prop := ∃ (sea2 : Int32), w = [(c0, .inr (1, [.ref cr, .int rev, .int sea2]))] ∧ r = (srF ci pr x 1 rl sea).1 ∧ (sea2 = (srF ci pr x 1 rl sea).2)
set_option maxHeartbeats 4000000 in
set_option maxRecDepth 100000 in
theorem kX0_search9 (l : Launch) (E : xE) (c0 : Nat) (cr : Nat) (rev : Int32) (sea : Int32) (ci : Nat → Option Nat) (N : Nat) (ra : Nat → Nat) (pr : Nat → RowP) (rl : Nat) (x : Int32) (hrl : rl < 10) (hok : ∀ i, i < N → rOk (pr i)) (hci : ∀ j i, ci j = some i → i < N) (hto : ∀ k, k < N → ∀ i, i < (pr k).1 16 → isN ((pr k).2.2.2 6 i) 10) : KT l yX0_search wsX0_search 4 97 0 0 E [(c0, .inr (1, [.ref cr, .int rev, .int sea]))] ([(cr, aR E 10 (fun j => (ci j).map ra))] ++ rowsW E N ra pr) [.ref c0, .int (nI rl), .int x, .int 9] (QI E (pX0_search9 E c0 cr rev sea ci N ra pr rl x)) := by
  refine KT.start (cc := cX0_search) (maxL := 5) (ret := (some .int)) (by decide) rfl (Nat.le_of_ble_eq_true rfl) ?_
  intro p e s m below meth c A H hx hb hr hlocks hml hts hown hin hP hR0 hD hap hev hz hA hS ls hl
  have hl : lv_has ls 5 [(0, .ref c0), (1, .int (nI rl)), (2, .int x), (3, .int 9)] := hl
  have hiX0 : ∀ w ∈ wsX00, w ∈ wsX0_search := by decide +kernel
  have hiX4 : ∀ w ∈ wsX40, w ∈ wsX0_search := by decide +kernel
  have hf21 := hts (.fieldLink RX0 21 "SignQuorum$Client" "searchedRoles" "I") (by decide +kernel)
  refine lv_aload_n hx hb dX0_search_0 rfl (lv_at hl 0 rfl) ?_
  refine lv_iload_n hx hb dX0_search_1 rfl (lv_at hl 1 rfl) ?_
  have hP := hP.sub (ws' := [] ++ [(c0, .inr (1, [.ref cr, .int rev, .int sea]))]) [0] rfl
  have hD := hD.sub (ws' := [] ++ [(c0, .inr (1, [.ref cr, .int rev, .int sea]))]) [0] (by decide) rfl
  refine xcr (va_runV (As := [.int (nI rl)]) (rest := []) ⟨hx, hb, hml, hown, hts⟩ (kX0_currentOfJ l E c0 cr rev sea ci ra rl (by first | assumption | omega) H.size) (cwV 1 hts gX0_search_X0_currentOf rfl rfl rfl (by decide +kernel) ⟨Nat.le_of_ble_eq_true rfl, Nat.le_of_ble_eq_true rfl⟩) ⟨CP.blind, (va_recv hev.1 hP (ci := 1) (q0 := 0) rfl rfl), (xpre hev hz hA hP hD hS hR0 hap [0, 1] rfl)⟩ rfl rfl hl.1 rfl (lv_room (Nat.le_of_ble_eq_true rfl)) dX0_search_2 ⟨Nat.le_of_ble_eq_true rfl, Nat.le_of_ble_eq_true rfl⟩) hP hD hS hA (fun r1 w2 H locs h3 hP hD hS => ?_)
  obtain ⟨rfl, rfl, h3⟩ := h3
  try dsimp only at h3
  have hP : va_P E.1 vwCl [(c0, .inr (1, [.ref cr, .int rev, .int sea]))] H := hP
  have hD : va_D A [(c0, .inr (1, [.ref cr, .int rev, .int sea]))] := hD
  cases o4 : ci rl with
  | none =>
    refine lv_astoreN (lv' := [(4, .null), (0, .ref c0), (1, .int (nI rl)), (2, .int x), (3, .int 9)]) hx hb dX0_search_5 hl (by decide) rfl (fun ls hl => ?_)
    refine lv_aloadN hx hb dX0_search_7 (lv_at hl 0 rfl) ?_
    refine lv_ifnullN (tgt := 18) hx hb dX0_search_9 (by decide) ?_
    refine lv_iconst (v := (-1)) hx hb dX0_search_18 (by decide) ?_
    refine xri hx hb hr hlocks hP hD hS ⟨sea, rfl, ?_, ?_⟩ dX0_search_19
    · exact (congrArg Prod.fst (srF_none o4 1)).symm
    · exact (congrArg Prod.snd (srF_none o4 1)).symm
  | some kk =>
    have hap := xmoreA (L := [(ra kk, .inr (5, [.int ((pr kk).2.1 0), .int (nI ((pr kk).1 17)), .int ((pr kk).2.1 1), .long ((pr kk).2.2.1), .ref ((pr kk).1 0), .int (nI ((pr kk).1 12)), .ref ((pr kk).1 1), .ref ((pr kk).1 2), .ref ((pr kk).1 3), .ref ((pr kk).1 4), .int (nI ((pr kk).1 13)), .int (nI ((pr kk).1 14)), .int ((pr kk).2.1 2)])), ((pr kk).1 0, aB E 16 ((pr kk).2.2.2 0)), ((pr kk).1 1, .inr (4, [.ref ((pr kk).1 5), .ref ((pr kk).1 6)])), ((pr kk).1 5, aI E 10 ((pr kk).2.2.2 1)), ((pr kk).1 6, aI E 10 ((pr kk).2.2.2 2)), ((pr kk).1 2, .inr (7, [.ref ((pr kk).1 7), .ref ((pr kk).1 8), .int (nI ((pr kk).1 15))])), ((pr kk).1 7, aI E 7 ((pr kk).2.2.2 3)), ((pr kk).1 8, aI E 7 ((pr kk).2.2.2 4)), ((pr kk).1 3, .inr (2, [.ref ((pr kk).1 9), .ref ((pr kk).1 10), .ref ((pr kk).1 11), .int (nI ((pr kk).1 16))])), ((pr kk).1 9, aI E 6 ((pr kk).2.2.2 5)), ((pr kk).1 10, aI E 6 ((pr kk).2.2.2 6)), ((pr kk).1 11, aZ E 6 ((pr kk).2.2.2 7)), ((pr kk).1 4, aI E 6 ((pr kk).2.2.2 8))]) hap (fun q9 h9 => List.mem_append_right _ (rowsW_mem (E := E) (ra := ra) (pr := pr) (hci _ _ o4) q9 h9))
    have hR0 := xmore (L := [(ra kk, .inr (5, [.int ((pr kk).2.1 0), .int (nI ((pr kk).1 17)), .int ((pr kk).2.1 1), .long ((pr kk).2.2.1), .ref ((pr kk).1 0), .int (nI ((pr kk).1 12)), .ref ((pr kk).1 1), .ref ((pr kk).1 2), .ref ((pr kk).1 3), .ref ((pr kk).1 4), .int (nI ((pr kk).1 13)), .int (nI ((pr kk).1 14)), .int ((pr kk).2.1 2)])), ((pr kk).1 0, aB E 16 ((pr kk).2.2.2 0)), ((pr kk).1 1, .inr (4, [.ref ((pr kk).1 5), .ref ((pr kk).1 6)])), ((pr kk).1 5, aI E 10 ((pr kk).2.2.2 1)), ((pr kk).1 6, aI E 10 ((pr kk).2.2.2 2)), ((pr kk).1 2, .inr (7, [.ref ((pr kk).1 7), .ref ((pr kk).1 8), .int (nI ((pr kk).1 15))])), ((pr kk).1 7, aI E 7 ((pr kk).2.2.2 3)), ((pr kk).1 8, aI E 7 ((pr kk).2.2.2 4)), ((pr kk).1 3, .inr (2, [.ref ((pr kk).1 9), .ref ((pr kk).1 10), .ref ((pr kk).1 11), .int (nI ((pr kk).1 16))])), ((pr kk).1 9, aI E 6 ((pr kk).2.2.2 5)), ((pr kk).1 10, aI E 6 ((pr kk).2.2.2 6)), ((pr kk).1 11, aZ E 6 ((pr kk).2.2.2 7)), ((pr kk).1 4, aI E 6 ((pr kk).2.2.2 8))]) hR0 (fun q9 h9 => List.mem_append_right _ (rowsW_mem (E := E) (ra := ra) (pr := pr) (hci _ _ o4) q9 h9))
    have hap : ∀ q ∈ ([(ra kk, .inr (5, [.int ((pr kk).2.1 0), .int (nI ((pr kk).1 17)), .int ((pr kk).2.1 1), .long ((pr kk).2.2.1), .ref ((pr kk).1 0), .int (nI ((pr kk).1 12)), .ref ((pr kk).1 1), .ref ((pr kk).1 2), .ref ((pr kk).1 3), .ref ((pr kk).1 4), .int (nI ((pr kk).1 13)), .int (nI ((pr kk).1 14)), .int ((pr kk).2.1 2)])), ((pr kk).1 0, aB E 16 ((pr kk).2.2.2 0)), ((pr kk).1 1, .inr (4, [.ref ((pr kk).1 5), .ref ((pr kk).1 6)])), ((pr kk).1 5, aI E 10 ((pr kk).2.2.2 1)), ((pr kk).1 6, aI E 10 ((pr kk).2.2.2 2)), ((pr kk).1 2, .inr (7, [.ref ((pr kk).1 7), .ref ((pr kk).1 8), .int (nI ((pr kk).1 15))])), ((pr kk).1 7, aI E 7 ((pr kk).2.2.2 3)), ((pr kk).1 8, aI E 7 ((pr kk).2.2.2 4)), ((pr kk).1 3, .inr (2, [.ref ((pr kk).1 9), .ref ((pr kk).1 10), .ref ((pr kk).1 11), .int (nI ((pr kk).1 16))])), ((pr kk).1 9, aI E 6 ((pr kk).2.2.2 5)), ((pr kk).1 10, aI E 6 ((pr kk).2.2.2 6)), ((pr kk).1 11, aZ E 6 ((pr kk).2.2.2 7)), ((pr kk).1 4, aI E 6 ((pr kk).2.2.2 8)), (cr, aR E 10 (fun j => (ci j).map ra))] ++ rowsW E N ra pr), ¬ A q.1 := hap
    have hR0 : va_P E.1 vwCl ([(ra kk, .inr (5, [.int ((pr kk).2.1 0), .int (nI ((pr kk).1 17)), .int ((pr kk).2.1 1), .long ((pr kk).2.2.1), .ref ((pr kk).1 0), .int (nI ((pr kk).1 12)), .ref ((pr kk).1 1), .ref ((pr kk).1 2), .ref ((pr kk).1 3), .ref ((pr kk).1 4), .int (nI ((pr kk).1 13)), .int (nI ((pr kk).1 14)), .int ((pr kk).2.1 2)])), ((pr kk).1 0, aB E 16 ((pr kk).2.2.2 0)), ((pr kk).1 1, .inr (4, [.ref ((pr kk).1 5), .ref ((pr kk).1 6)])), ((pr kk).1 5, aI E 10 ((pr kk).2.2.2 1)), ((pr kk).1 6, aI E 10 ((pr kk).2.2.2 2)), ((pr kk).1 2, .inr (7, [.ref ((pr kk).1 7), .ref ((pr kk).1 8), .int (nI ((pr kk).1 15))])), ((pr kk).1 7, aI E 7 ((pr kk).2.2.2 3)), ((pr kk).1 8, aI E 7 ((pr kk).2.2.2 4)), ((pr kk).1 3, .inr (2, [.ref ((pr kk).1 9), .ref ((pr kk).1 10), .ref ((pr kk).1 11), .int (nI ((pr kk).1 16))])), ((pr kk).1 9, aI E 6 ((pr kk).2.2.2 5)), ((pr kk).1 10, aI E 6 ((pr kk).2.2.2 6)), ((pr kk).1 11, aZ E 6 ((pr kk).2.2.2 7)), ((pr kk).1 4, aI E 6 ((pr kk).2.2.2 8)), (cr, aR E 10 (fun j => (ci j).map ra))] ++ rowsW E N ra pr) s.heap := hR0
    have hltkk : kk < N := hci _ _ o4
    obtain ⟨o12kk, o13kk, o14kk, o15kk, o16kk, o17kk⟩ := hok kk (hci _ _ o4)
    refine lv_astore (lv' := [(4, .ref (ra kk)), (0, .ref c0), (1, .int (nI rl)), (2, .int x), (3, .int 9)]) hx hb dX0_search_5 hl (by decide) rfl (fun ls hl => ?_)
    refine lv_aload hx hb dX0_search_7 (lv_at hl 0 rfl) ?_
    refine lv_ifnull hx hb dX0_search_9 ?_
    refine lv_iload_n hx hb dX0_search_12 rfl (lv_at hl 4 rfl) ?_
    refine lv_bipush (v := 10) hx hb dX0_search_13 (by decide) ?_
    refine lv_icmp_lt (tgt := 20) hx hb dX0_search_15 (by decide) (fun c5 => ?_) (fun c5 => absurd (by decide) c5)
    refine lv_aload_n hx hb dX0_search_20 rfl (lv_at hl 1 rfl) ?_
    refine lv_dup hx hb dX0_search_21 rfl ?_
    refine va_get (D := E.1) (ci := 1) (v := .int sea) (C := RX0) (T := TX0) (N := 3) hx hb hts hiX0 hown hev.1 hP 0 rfl rfl 2 (by decide) hf21 (fun _ h9 => h9) rfl dX0_search_22 ?_
    refine lv_iconst (v := 1) hx hb dX0_search_25 (by decide) ?_
    refine lv_iload_n hx hb dX0_search_26 rfl (lv_at hl 2 rfl) ?_
    refine lv_ishl hx hb dX0_search_27 ?_
    refine lv_ior hx hb dX0_search_28 ?_
    refine lv_topi (fun v6 ev6 => ?_)
    refine va_put (D := E.1) (ci := 1) (v := .int v6) (ty := tyX0 2) (C := RX0) (T := TX0) (N := 3) hx hb hts hiX0 tyX0 tyX0_ok nmX0 hown hev.1 hP hD hS 0 rfl rfl 2 (by decide) hf21 (fun _ h9 => h9) rfl (tyX0_ok 2 (by decide)) rfl rfl (Nat.le_of_ble_eq_true rfl) dX0_search_29 (fun H locs hP hD hS => ?_)
    have hP : va_P E.1 vwCl [(c0, .inr (1, [.ref cr, .int rev, .int v6]))] H := hP
    have hD : va_D A [(c0, .inr (1, [.ref cr, .int rev, .int v6]))] := hD
    refine lv_aload hx hb dX0_search_32 (lv_at hl 0 rfl) ?_
    refine lv_iload_n hx hb dX0_search_34 rfl (lv_at hl 3 rfl) ?_
    have hP := hP.sub (ws' := [] ++ [(c0, .inr (1, [.ref cr, .int rev, .int v6]))]) [0] rfl
    have hD := hD.sub (ws' := [] ++ [(c0, .inr (1, [.ref cr, .int rev, .int v6]))]) [0] (by decide) rfl
    refine xci (va_runV (As := [.int x]) (rest := []) ⟨hx, hb, hml, hown, hts⟩ (kX4_hasPath l E (ra kk) ((pr kk).2.1 0) (nI ((pr kk).1 17)) ((pr kk).2.1 1) ((pr kk).2.2.1) ((pr kk).1 0) ((pr kk).1 12) ((pr kk).1 1) ((pr kk).1 2) ((pr kk).1 3) ((pr kk).1 4) ((pr kk).1 13) (nI ((pr kk).1 14)) ((pr kk).2.1 2) ((pr kk).2.2.2 8) x (by first | assumption | omega) H.size) (cwV 1 hts gX0_search_X4_hasPath rfl rfl rfl (by decide +kernel) ⟨Nat.le_of_ble_eq_true rfl, Nat.le_of_ble_eq_true rfl⟩) ⟨CP.blind, (va_recv hev.1 (xro hR0 hap hS) (ci := 5) (q0 := 0) rfl rfl), (xpre hev hz hA hP hD hS hR0 hap [1, 13] rfl)⟩ rfl rfl hl.1 rfl (lv_room (Nat.le_of_ble_eq_true rfl)) dX0_search_35 ⟨Nat.le_of_ble_eq_true rfl, Nat.le_of_ble_eq_true rfl⟩) hP hD hS hA (fun r7 w8 H locs h9 hP hD hS => ?_)
    obtain ⟨rfl, rfl, h9⟩ := h9
    try dsimp only at h9
    have hP : va_P E.1 vwCl [(c0, .inr (1, [.ref cr, .int rev, .int v6]))] H := hP
    have hD : va_D A [(c0, .inr (1, [.ref cr, .int rev, .int v6]))] := hD
    refine lv_if_eq (tgt := 43) hx hb dX0_search_38 (by decide) (fun c10 => ?_) (fun c10 => ?_)
    · skip
      have kc10 := b1_0.mp c10
      refine lv_aload_n hx hb dX0_search_43 rfl (lv_at hl 1 rfl) ?_
      refine lv_aload hx hb dX0_search_44 (lv_at hl 0 rfl) ?_
      refine va_getN (D := E.1) (ci := 5) (v := .ref ((pr kk).1 3)) (C := RX4) (T := TX4) (N := 13) hx hb hts hiX4 hown hev.1 (xro hR0 hap hS) 0 rfl rfl 8 (by decide) (xNF16 hev.2.1) (fun _ h9 => h9) rfl dX0_search_46 ?_
      refine lv_iload_n hx hb dX0_search_49 rfl (lv_at hl 3 rfl) ?_
      refine lv_iload_n hx hb dX0_search_50 rfl (lv_at hl 4 rfl) ?_
      have hP := hP.sub (ws' := [(c0, .inr (1, [.ref cr, .int rev, .int v6]))] ++ []) [0] rfl
      have hD := hD.sub (ws' := [(c0, .inr (1, [.ref cr, .int rev, .int v6]))] ++ []) [0] (by decide) rfl
      refine xci (va_runV (As := [.ref ((pr kk).1 3), .int x, .int 9]) (rest := []) ⟨hx, hb, hml, hown, hts⟩ (kX0_follow9 l E c0 cr rev v6 ci N ra pr kk x (by first | assumption | omega) (by first | assumption | omega) (by first | assumption | omega) (by first | assumption | omega) H.size) (cwV 3 hts gX0_search_X0_followDelegations rfl rfl rfl (by decide +kernel) ⟨Nat.le_of_ble_eq_true rfl, Nat.le_of_ble_eq_true rfl⟩) ⟨CP.blind, (va_recv hev.1 hP.left (ci := 1) (q0 := 0) rfl rfl), (xpreT (X := rowsW E N ra pr) hev hz hA hP hD hS hR0 hap [13] rfl (fun q9 h9 => List.mem_append_right _ h9))⟩ rfl rfl hl.1 rfl (lv_room (Nat.le_of_ble_eq_true rfl)) dX0_search_51 ⟨Nat.le_of_ble_eq_true rfl, Nat.le_of_ble_eq_true rfl⟩) hP hD hS hA (fun r11 w12 H locs h13 hP hD hS => ?_)
      obtain ⟨sea214, rfl, rfl, h13⟩ := h13
      try dsimp only at h13
      have hP : va_P E.1 vwCl [(c0, .inr (1, [.ref cr, .int rev, .int sea214]))] H := hP
      have hD : va_D A [(c0, .inr (1, [.ref cr, .int rev, .int sea214]))] := hD
      refine xri hx hb hr hlocks hP hD hS ⟨sea214, rfl, ?_, ?_⟩ dX0_search_54
      · rw [ev6]
        exact (congrArg Prod.fst (srF_go (m := sea) 0 o4 kc10)).symm
      · rw [ev6] at h13
        exact h13.trans (congrArg Prod.snd (srF_go (m := sea) 0 o4 kc10)).symm
    · skip
      have kc10 := b1_n.mp c10
      refine lv_iload_n hx hb dX0_search_41 rfl (lv_at hl 2 rfl) ?_
      refine xri hx hb hr hlocks hP hD hS ⟨v6, rfl, ?_, ?_⟩ dX0_search_42
      · exact (congrArg Prod.fst (srF_hit (m := sea) 0 o4 kc10)).symm
      · rw [ev6]
        exact (congrArg Prod.snd (srF_hit (m := sea) 0 o4 kc10)).symm

abbrev pX0_follow8 (E : xE) (c0 : Nat) (cr : Nat) (rev : Int32) (sea : Int32) (ci : Nat → Option Nat) (N : Nat) (ra : Nat → Nat) (pr : Nat → RowP) (k : Nat) (x : Int32) (r : Int32) (w : va_W) : Prop := ∃ (sea2 : Int32), w = [(c0, .inr (1, [.ref cr, .int rev, .int sea2]))] ∧ r = (folF (srF ci pr x 1) (pr k) x ((pr k).1 16) 0 sea).1 ∧ (sea2 = (folF (srF ci pr x 1) (pr k) x ((pr k).1 16) 0 sea).2)
set_option maxHeartbeats 4000000 in
set_option maxRecDepth 100000 in
theorem kX0_follow8 (l : Launch) (E : xE) (c0 : Nat) (cr : Nat) (rev : Int32) (sea : Int32) (ci : Nat → Option Nat) (N : Nat) (ra : Nat → Nat) (pr : Nat → RowP) (k : Nat) (x : Int32) (hk : k < N) (hok : ∀ i, i < N → rOk (pr i)) (hci : ∀ j i, ci j = some i → i < N) (hto : ∀ k, k < N → ∀ i, i < (pr k).1 16 → isN ((pr k).2.2.2 6 i) 10) : KT l yX0_followDelegations wsX0_followDelegations 5 121 0 0 E [(c0, .inr (1, [.ref cr, .int rev, .int sea]))] ([(cr, aR E 10 (fun j => (ci j).map ra))] ++ rowsW E N ra pr) [.ref c0, .ref ((pr k).1 3), .int x, .int 8] (QI E (pX0_follow8 E c0 cr rev sea ci N ra pr k x)) := by
  refine KT.start (cc := cX0_followDelegations) (maxL := 7) (ret := (some .int)) (by decide) rfl (Nat.le_of_ble_eq_true rfl) ?_
  intro p e s m below meth c A H hx hb hr hlocks hml hts hown hin hP hR0 hD hap hev hz hA hS ls hl
  have hl : lv_has ls 7 [(0, .ref c0), (1, .ref ((pr k).1 3)), (2, .int x), (3, .int 8)] := hl
  have hiX1 : ∀ w ∈ wsX10, w ∈ wsX0_followDelegations := by decide +kernel
  have hiniX7 := hts (.initialized RX7) (by decide +kernel)
  have hstX7_fits := hts (.static yX7_fits) (by decide +kernel)
  have hi9 := hk
  have hap := xmoreA (L := [(ra k, .inr (5, [.int ((pr k).2.1 0), .int (nI ((pr k).1 17)), .int ((pr k).2.1 1), .long ((pr k).2.2.1), .ref ((pr k).1 0), .int (nI ((pr k).1 12)), .ref ((pr k).1 1), .ref ((pr k).1 2), .ref ((pr k).1 3), .ref ((pr k).1 4), .int (nI ((pr k).1 13)), .int (nI ((pr k).1 14)), .int ((pr k).2.1 2)])), ((pr k).1 0, aB E 16 ((pr k).2.2.2 0)), ((pr k).1 1, .inr (4, [.ref ((pr k).1 5), .ref ((pr k).1 6)])), ((pr k).1 5, aI E 10 ((pr k).2.2.2 1)), ((pr k).1 6, aI E 10 ((pr k).2.2.2 2)), ((pr k).1 2, .inr (7, [.ref ((pr k).1 7), .ref ((pr k).1 8), .int (nI ((pr k).1 15))])), ((pr k).1 7, aI E 7 ((pr k).2.2.2 3)), ((pr k).1 8, aI E 7 ((pr k).2.2.2 4)), ((pr k).1 3, .inr (2, [.ref ((pr k).1 9), .ref ((pr k).1 10), .ref ((pr k).1 11), .int (nI ((pr k).1 16))])), ((pr k).1 9, aI E 6 ((pr k).2.2.2 5)), ((pr k).1 10, aI E 6 ((pr k).2.2.2 6)), ((pr k).1 11, aZ E 6 ((pr k).2.2.2 7)), ((pr k).1 4, aI E 6 ((pr k).2.2.2 8))]) hap (fun q9 h9 => List.mem_append_right _ (rowsW_mem (E := E) (ra := ra) (pr := pr) (hk) q9 h9))
  have hR0 := xmore (L := [(ra k, .inr (5, [.int ((pr k).2.1 0), .int (nI ((pr k).1 17)), .int ((pr k).2.1 1), .long ((pr k).2.2.1), .ref ((pr k).1 0), .int (nI ((pr k).1 12)), .ref ((pr k).1 1), .ref ((pr k).1 2), .ref ((pr k).1 3), .ref ((pr k).1 4), .int (nI ((pr k).1 13)), .int (nI ((pr k).1 14)), .int ((pr k).2.1 2)])), ((pr k).1 0, aB E 16 ((pr k).2.2.2 0)), ((pr k).1 1, .inr (4, [.ref ((pr k).1 5), .ref ((pr k).1 6)])), ((pr k).1 5, aI E 10 ((pr k).2.2.2 1)), ((pr k).1 6, aI E 10 ((pr k).2.2.2 2)), ((pr k).1 2, .inr (7, [.ref ((pr k).1 7), .ref ((pr k).1 8), .int (nI ((pr k).1 15))])), ((pr k).1 7, aI E 7 ((pr k).2.2.2 3)), ((pr k).1 8, aI E 7 ((pr k).2.2.2 4)), ((pr k).1 3, .inr (2, [.ref ((pr k).1 9), .ref ((pr k).1 10), .ref ((pr k).1 11), .int (nI ((pr k).1 16))])), ((pr k).1 9, aI E 6 ((pr k).2.2.2 5)), ((pr k).1 10, aI E 6 ((pr k).2.2.2 6)), ((pr k).1 11, aZ E 6 ((pr k).2.2.2 7)), ((pr k).1 4, aI E 6 ((pr k).2.2.2 8))]) hR0 (fun q9 h9 => List.mem_append_right _ (rowsW_mem (E := E) (ra := ra) (pr := pr) (hk) q9 h9))
  have hap : ∀ q ∈ ([(ra k, .inr (5, [.int ((pr k).2.1 0), .int (nI ((pr k).1 17)), .int ((pr k).2.1 1), .long ((pr k).2.2.1), .ref ((pr k).1 0), .int (nI ((pr k).1 12)), .ref ((pr k).1 1), .ref ((pr k).1 2), .ref ((pr k).1 3), .ref ((pr k).1 4), .int (nI ((pr k).1 13)), .int (nI ((pr k).1 14)), .int ((pr k).2.1 2)])), ((pr k).1 0, aB E 16 ((pr k).2.2.2 0)), ((pr k).1 1, .inr (4, [.ref ((pr k).1 5), .ref ((pr k).1 6)])), ((pr k).1 5, aI E 10 ((pr k).2.2.2 1)), ((pr k).1 6, aI E 10 ((pr k).2.2.2 2)), ((pr k).1 2, .inr (7, [.ref ((pr k).1 7), .ref ((pr k).1 8), .int (nI ((pr k).1 15))])), ((pr k).1 7, aI E 7 ((pr k).2.2.2 3)), ((pr k).1 8, aI E 7 ((pr k).2.2.2 4)), ((pr k).1 3, .inr (2, [.ref ((pr k).1 9), .ref ((pr k).1 10), .ref ((pr k).1 11), .int (nI ((pr k).1 16))])), ((pr k).1 9, aI E 6 ((pr k).2.2.2 5)), ((pr k).1 10, aI E 6 ((pr k).2.2.2 6)), ((pr k).1 11, aZ E 6 ((pr k).2.2.2 7)), ((pr k).1 4, aI E 6 ((pr k).2.2.2 8)), (cr, aR E 10 (fun j => (ci j).map ra))] ++ rowsW E N ra pr), ¬ A q.1 := hap
  have hR0 : va_P E.1 vwCl ([(ra k, .inr (5, [.int ((pr k).2.1 0), .int (nI ((pr k).1 17)), .int ((pr k).2.1 1), .long ((pr k).2.2.1), .ref ((pr k).1 0), .int (nI ((pr k).1 12)), .ref ((pr k).1 1), .ref ((pr k).1 2), .ref ((pr k).1 3), .ref ((pr k).1 4), .int (nI ((pr k).1 13)), .int (nI ((pr k).1 14)), .int ((pr k).2.1 2)])), ((pr k).1 0, aB E 16 ((pr k).2.2.2 0)), ((pr k).1 1, .inr (4, [.ref ((pr k).1 5), .ref ((pr k).1 6)])), ((pr k).1 5, aI E 10 ((pr k).2.2.2 1)), ((pr k).1 6, aI E 10 ((pr k).2.2.2 2)), ((pr k).1 2, .inr (7, [.ref ((pr k).1 7), .ref ((pr k).1 8), .int (nI ((pr k).1 15))])), ((pr k).1 7, aI E 7 ((pr k).2.2.2 3)), ((pr k).1 8, aI E 7 ((pr k).2.2.2 4)), ((pr k).1 3, .inr (2, [.ref ((pr k).1 9), .ref ((pr k).1 10), .ref ((pr k).1 11), .int (nI ((pr k).1 16))])), ((pr k).1 9, aI E 6 ((pr k).2.2.2 5)), ((pr k).1 10, aI E 6 ((pr k).2.2.2 6)), ((pr k).1 11, aZ E 6 ((pr k).2.2.2 7)), ((pr k).1 4, aI E 6 ((pr k).2.2.2 8)), (cr, aR E 10 (fun j => (ci j).map ra))] ++ rowsW E N ra pr) s.heap := hR0
  have hltk : k < N := hk
  obtain ⟨o12k, o13k, o14k, o15k, o16k, o17k⟩ := hok k (hk)
  refine lv_iconst (v := 0) hx hb dX0_followDelegations_0 (by decide) ?_
  refine lv_istore (lv' := [(4, .int 0), (0, .ref c0), (1, .ref ((pr k).1 3)), (2, .int x), (3, .int 8)]) hx hb dX0_followDelegations_1 hl (by decide) rfl (fun ls hl => ?_)
  have loop3 : ∀ (fz3 : Nat) (i : Nat) (m9 : Int32), (i ≤ (pr k).1 16) → (folF (srF ci pr x 1) (pr k) x ((pr k).1 16 - i) i m9 = folF (srF ci pr x 1) (pr k) x ((pr k).1 16) 0 sea) → ((pr k).1 16 - i < fz3) → ∀ (H : Heap) (locs : List Loc), va_P E.1 vwCl [(c0, .inr (1, [.ref cr, .int rev, .int m9]))] H → va_D A [(c0, .inr (1, [.ref cr, .int rev, .int m9]))] → va_S A s.heap H locs → ∀ ls : Array Slot, lv_has ls 7 [(4, .int (nI i)), (0, .ref c0), (1, .ref ((pr k).1 3)), (2, .int x), (3, .int 8)] → W p l e ({ frames := 5, cells := 0, slots := 0, locals := 121 } : Room) s m ([.ref c0, .ref ((pr k).1 3), .int x, .int 8] : List Value).toArray below meth c H locs 0 0 (MQ below (QI E (pX0_follow8 E c0 cr rev sea ci N ra pr k x) A) ([.ref c0, .ref ((pr k).1 3), .int x, .int 8] : List Value).toArray s 0 0 A) (F0 m 3 ls []) := by
    intro fz3
    induction fz3 with
    | zero =>
      intro i m9 hi he hfuel
      exact absurd hfuel (by omega)
    | succ fz3 ih3 =>
      intro i m9 hi he hfuel H locs hP hD hS ls hl
      refine lv_iload hx hb dX0_followDelegations_3 (lv_at hl 0 rfl) ?_
      refine lv_aload_n hx hb dX0_followDelegations_5 rfl (lv_at hl 2 rfl) ?_
      refine va_getN (D := E.1) (ci := 2) (v := .int (nI ((pr k).1 16))) (C := RX1) (T := TX1) (N := 4) hx hb hts hiX1 hown hev.1 (xro hR0 hap hS) 8 rfl rfl 3 (by decide) (xNF4 hev.2.1) (fun _ h9 => h9) rfl dX0_followDelegations_6 ?_
      refine lv_icmp_ge (tgt := 91) hx hb dX0_followDelegations_9 (by decide) (fun c1 => ?_) (fun c1 => ?_)
      · skip
        have kc1 : ((pr k).1 16) ≤ i := (nI_leI (a := ((pr k).1 16)) (b := i) (by omega) (by omega)).mp c1
        refine lv_iconst (v := (-1)) hx hb dX0_followDelegations_91 (by decide) ?_
        refine xri hx hb hr hlocks hP hD hS ⟨m9, rfl, ?_, ?_⟩ dX0_followDelegations_92
        · exact congrArg Prod.fst ((fo_end (by omega)).symm.trans he)
        · exact congrArg Prod.snd ((fo_end (by omega)).symm.trans he)
      · skip
        have kc1 : ¬ ((pr k).1 16) ≤ i := fun h9 => c1 ((nI_leI (a := ((pr k).1 16)) (b := i) (by omega) (by omega)).mpr h9)
        refine lv_aload_n hx hb dX0_followDelegations_12 rfl (lv_at hl 2 rfl) ?_
        refine va_getN (D := E.1) (ci := 2) (v := .ref ((pr k).1 9)) (C := RX1) (T := TX1) (N := 4) hx hb hts hiX1 hown hev.1 (xro hR0 hap hS) 8 rfl rfl 0 (by decide) (xNF1 hev.2.1) (fun _ h9 => h9) rfl dX0_followDelegations_13 ?_
        refine lv_iload hx hb dX0_followDelegations_16 (lv_at hl 0 rfl) ?_
        refine xiald (k := (i)) hx hb hev.1 (xro hR0 hap hS) 9 1 rfl rfl (by omega) (by decide) dX0_followDelegations_18 ?_
        refine lv_iload_n hx hb dX0_followDelegations_19 rfl (lv_at hl 3 rfl) ?_
        have hP := hP.sub (ws' := [] ++ [(c0, .inr (1, [.ref cr, .int rev, .int m9]))]) [0] rfl
        have hD := hD.sub (ws' := [] ++ [(c0, .inr (1, [.ref cr, .int rev, .int m9]))]) [0] (by decide) rfl
        refine xci (va_runSN (As := [.int (((pr k).2.2.2 5) i), .int x]) (rest := []) ⟨hx, hb, hml, hown, hts⟩ (kX7_fits l E (((pr k).2.2.2 5) i) x  H.size) ⟨va_cnB 2 hts gX0_followDelegations_X7_fits_n108 rfl rfl rfl (xNM6 hev.2.1) hiniX7 (by decide +kernel) ⟨Nat.le_of_ble_eq_true rfl, Nat.le_of_ble_eq_true rfl⟩, hstX7_fits, trivial⟩ ⟨CP.blind, (xpre hev hz hA hP hD hS hR0 hap [] rfl)⟩ rfl rfl hl.1 rfl (lv_room (Nat.le_of_ble_eq_true rfl)) dX0_followDelegations_20 ⟨Nat.le_of_ble_eq_true rfl, Nat.le_of_ble_eq_true rfl⟩) hP hD hS hA (fun r2 w3 H locs h4 hP hD hS => ?_)
        obtain ⟨rfl, rfl, h4⟩ := h4
        try dsimp only at h4
        have hP : va_P E.1 vwCl [(c0, .inr (1, [.ref cr, .int rev, .int m9]))] H := hP
        have hD : va_D A [(c0, .inr (1, [.ref cr, .int rev, .int m9]))] := hD
        refine lv_if_ne (tgt := 29) hx hb dX0_followDelegations_23 (by decide) (fun c5 => ?_) (fun c5 => ?_)
        · skip
          have kc5 := b1_n.mp c5
          refine lv_aload_n hx hb dX0_followDelegations_29 rfl (lv_at hl 2 rfl) ?_
          refine va_getN (D := E.1) (ci := 2) (v := .ref ((pr k).1 10)) (C := RX1) (T := TX1) (N := 4) hx hb hts hiX1 hown hev.1 (xro hR0 hap hS) 8 rfl rfl 1 (by decide) (xNF2 hev.2.1) (fun _ h9 => h9) rfl dX0_followDelegations_30 ?_
          refine lv_iload hx hb dX0_followDelegations_33 (lv_at hl 0 rfl) ?_
          refine xiald (k := (i)) hx hb hev.1 (xro hR0 hap hS) 10 1 rfl rfl (by omega) (by decide) dX0_followDelegations_35 ?_
          obtain ⟨to6, hto6, eto⟩ := hto k hk i (by omega)
          refine xtop (y := nI to6) (eto) ?_
          refine lv_istore (lv' := [(5, .int (nI to6)), (4, .int (nI i)), (0, .ref c0), (1, .ref ((pr k).1 3)), (2, .int x), (3, .int 8)]) hx hb dX0_followDelegations_36 hl (by decide) rfl (fun ls hl => ?_)
          refine lv_aload_n hx hb dX0_followDelegations_38 rfl (lv_at hl 2 rfl) ?_
          refine lv_iload hx hb dX0_followDelegations_39 (lv_at hl 0 rfl) ?_
          have hP := hP.sub (ws' := [] ++ [(c0, .inr (1, [.ref cr, .int rev, .int m9]))]) [0] rfl
          have hD := hD.sub (ws' := [] ++ [(c0, .inr (1, [.ref cr, .int rev, .int m9]))]) [0] (by decide) rfl
          refine xci (va_runV (As := [.int (nI to6)]) (rest := []) ⟨hx, hb, hml, hown, hts⟩ (kX0_isSearched l E c0 cr rev m9 (nI to6)  H.size) (cwV 1 hts gX0_followDelegations_X0_isSearched rfl rfl rfl (by decide +kernel) ⟨Nat.le_of_ble_eq_true rfl, Nat.le_of_ble_eq_true rfl⟩) ⟨CP.blind, (va_recv hev.1 hP (ci := 1) (q0 := 0) rfl rfl), (xpre hev hz hA hP hD hS hR0 hap [0] rfl)⟩ rfl rfl hl.1 rfl (lv_room (Nat.le_of_ble_eq_true rfl)) dX0_followDelegations_41 ⟨Nat.le_of_ble_eq_true rfl, Nat.le_of_ble_eq_true rfl⟩) hP hD hS hA (fun r7 w8 H locs h9 hP hD hS => ?_)
          obtain ⟨rfl, rfl, h9⟩ := h9
          try dsimp only at h9
          have hP : va_P E.1 vwCl [(c0, .inr (1, [.ref cr, .int rev, .int m9]))] H := hP
          have hD : va_D A [(c0, .inr (1, [.ref cr, .int rev, .int m9]))] := hD
          refine lv_if_eq (tgt := 51) hx hb dX0_followDelegations_44 (by decide) (fun c10 => ?_) (fun c10 => ?_)
          · skip
            have kc10 := b1_0.mp c10
            refine lv_aload_n hx hb dX0_followDelegations_51 rfl (lv_at hl 2 rfl) ?_
            refine lv_iload hx hb dX0_followDelegations_52 (lv_at hl 0 rfl) ?_
            refine lv_iload_n hx hb dX0_followDelegations_54 rfl (lv_at hl 4 rfl) ?_
            refine lv_iload_n hx hb dX0_followDelegations_55 rfl (lv_at hl 5 rfl) ?_
            refine lv_iconst (v := 1) hx hb dX0_followDelegations_56 (by decide) ?_
            refine lv_iadd hx hb dX0_followDelegations_57 ?_
            refine xtop (y := 9) (by decide) ?_
            have hP := hP.sub (ws' := [(c0, .inr (1, [.ref cr, .int rev, .int m9]))] ++ []) [0] rfl
            have hD := hD.sub (ws' := [(c0, .inr (1, [.ref cr, .int rev, .int m9]))] ++ []) [0] (by decide) rfl
            refine xci (va_runV (As := [.int (nI to6), .int x, .int 9]) (rest := []) ⟨hx, hb, hml, hown, hts⟩ (kX0_search9 l E c0 cr rev m9 ci N ra pr to6 x (by first | assumption | omega) (by first | assumption | omega) (by first | assumption | omega) (by first | assumption | omega) H.size) (cwV 3 hts gX0_followDelegations_X0_search rfl rfl rfl (by decide +kernel) ⟨Nat.le_of_ble_eq_true rfl, Nat.le_of_ble_eq_true rfl⟩) ⟨CP.blind, (va_recv hev.1 hP.left (ci := 1) (q0 := 0) rfl rfl), (xpreT (X := rowsW E N ra pr) hev hz hA hP hD hS hR0 hap [13] rfl (fun q9 h9 => List.mem_append_right _ h9))⟩ rfl rfl hl.1 rfl (lv_room (Nat.le_of_ble_eq_true rfl)) dX0_followDelegations_58 ⟨Nat.le_of_ble_eq_true rfl, Nat.le_of_ble_eq_true rfl⟩) hP hD hS hA (fun r11 w12 H locs h13 hP hD hS => ?_)
            obtain ⟨sea214, rfl, rfl, h13⟩ := h13
            try dsimp only at h13
            have hP : va_P E.1 vwCl [(c0, .inr (1, [.ref cr, .int rev, .int sea214]))] H := hP
            have hD : va_D A [(c0, .inr (1, [.ref cr, .int rev, .int sea214]))] := hD
            refine lv_istore (lv' := [(6, .int ((srF ci pr x 1 to6 m9).1)), (5, .int (nI to6)), (4, .int (nI i)), (0, .ref c0), (1, .ref ((pr k).1 3)), (2, .int x), (3, .int 8)]) hx hb dX0_followDelegations_61 hl (by decide) rfl (fun ls hl => ?_)
            refine lv_iload hx hb dX0_followDelegations_63 (lv_at hl 0 rfl) ?_
            refine lv_iconst (v := (-1)) hx hb dX0_followDelegations_65 (by decide) ?_
            refine lv_icmp_eq (tgt := 72) hx hb dX0_followDelegations_66 (by decide) (fun c15 => ?_) (fun c15 => ?_)
            · skip
              refine lv_aload_n hx hb dX0_followDelegations_72 rfl (lv_at hl 4 rfl) ?_
              refine va_getN (D := E.1) (ci := 2) (v := .ref ((pr k).1 11)) (C := RX1) (T := TX1) (N := 4) hx hb hts hiX1 hown hev.1 (xro hR0 hap hS) 8 rfl rfl 2 (by decide) (xNF3 hev.2.1) (fun _ h9 => h9) rfl dX0_followDelegations_73 ?_
              refine lv_iload hx hb dX0_followDelegations_76 (lv_at hl 2 rfl) ?_
              refine xzald (k := (i)) hx hb hev.1 (xro hR0 hap hS) 11 3 rfl rfl (by omega) (by decide) dX0_followDelegations_78 ?_
              refine lv_if_eq (tgt := 85) hx hb dX0_followDelegations_79 (by decide) (fun c16 => ?_) (fun c16 => ?_)
              · skip
                refine lv_iinc (v := nI (i + 1)) (lv' := [(4, .int (nI (i + 1))), (6, .int ((srF ci pr x 1 to6 m9).1)), (5, .int (nI to6)), (0, .ref c0), (1, .ref ((pr k).1 3)), (2, .int x), (3, .int 8)]) hx hb dX0_followDelegations_85 hl (k := 2) rfl ((nI_add i 1).trans (congrArg nI (by omega))) (by decide) rfl (fun ls hl => ?_)
                refine lv_goto (tgt := 3) hx hb dX0_followDelegations_88 (by decide) ?_
                exact ih3  (i + 1) sea214 (by omega) (((fo_next (a := (srF ci pr x 1 to6 m9)) (by omega) kc5 (by rw [eto]; exact nI_clamp (by omega)) (pk2_f kc10) c15 c16).trans (by rw [← h13])).symm.trans he) (by omega) _ _ hP hD hS ls (lv_sub hl [0, 3, 4, 5, 6] rfl)
              · skip
                refine lv_bipush (v := (-2)) hx hb dX0_followDelegations_82 (by decide) ?_
                refine xri hx hb hr hlocks hP hD hS ⟨sea214, rfl, ?_, ?_⟩ dX0_followDelegations_84
                · exact congrArg Prod.fst ((fo_over (a := (srF ci pr x 1 to6 m9)) (by omega) kc5 (by rw [eto]; exact nI_clamp (by omega)) (pk2_f kc10) c15 c16).symm.trans he)
                · have q9 := congrArg Prod.snd ((fo_over (a := (srF ci pr x 1 to6 m9)) (by omega) kc5 (by rw [eto]; exact nI_clamp (by omega)) (pk2_f kc10) c15 c16).symm.trans he)
                  exact h13.trans q9
            · skip
              refine lv_iload hx hb dX0_followDelegations_69 (lv_at hl 0 rfl) ?_
              refine xri hx hb hr hlocks hP hD hS ⟨sea214, rfl, ?_, ?_⟩ dX0_followDelegations_71
              · exact (congrArg Prod.fst ((fo_hit (a := (srF ci pr x 1 to6 m9)) (by omega) kc5 (by rw [eto]; exact nI_clamp (by omega)) (pk2_f kc10) c15).symm.trans he))
              · exact h13.trans (congrArg Prod.snd ((fo_hit (a := (srF ci pr x 1 to6 m9)) (by omega) kc5 (by rw [eto]; exact nI_clamp (by omega)) (pk2_f kc10) c15).symm.trans he))
          · skip
            have kc10 := b1_n.mp c10
            refine lv_iconst (v := (-1)) hx hb dX0_followDelegations_47 (by decide) ?_
            refine lv_goto (tgt := 61) hx hb dX0_followDelegations_48 (by decide) ?_
            refine lv_istore (lv' := [(6, .int (-1)), (5, .int (nI to6)), (4, .int (nI i)), (0, .ref c0), (1, .ref ((pr k).1 3)), (2, .int x), (3, .int 8)]) hx hb dX0_followDelegations_61 hl (by decide) rfl (fun ls hl => ?_)
            refine lv_iload hx hb dX0_followDelegations_63 (lv_at hl 0 rfl) ?_
            refine lv_iconst (v := (-1)) hx hb dX0_followDelegations_65 (by decide) ?_
            refine lv_icmp_eq (tgt := 72) hx hb dX0_followDelegations_66 (by decide) (fun c17 => ?_) (fun c17 => absurd (by decide) c17)
            refine lv_aload_n hx hb dX0_followDelegations_72 rfl (lv_at hl 4 rfl) ?_
            refine va_getN (D := E.1) (ci := 2) (v := .ref ((pr k).1 11)) (C := RX1) (T := TX1) (N := 4) hx hb hts hiX1 hown hev.1 (xro hR0 hap hS) 8 rfl rfl 2 (by decide) (xNF3 hev.2.1) (fun _ h9 => h9) rfl dX0_followDelegations_73 ?_
            refine lv_iload hx hb dX0_followDelegations_76 (lv_at hl 2 rfl) ?_
            refine xzald (k := (i)) hx hb hev.1 (xro hR0 hap hS) 11 3 rfl rfl (by omega) (by decide) dX0_followDelegations_78 ?_
            refine lv_if_eq (tgt := 85) hx hb dX0_followDelegations_79 (by decide) (fun c18 => ?_) (fun c18 => ?_)
            · skip
              refine lv_iinc (v := nI (i + 1)) (lv' := [(4, .int (nI (i + 1))), (6, .int (-1)), (5, .int (nI to6)), (0, .ref c0), (1, .ref ((pr k).1 3)), (2, .int x), (3, .int 8)]) hx hb dX0_followDelegations_85 hl (k := 2) rfl ((nI_add i 1).trans (congrArg nI (by omega))) (by decide) rfl (fun ls hl => ?_)
              refine lv_goto (tgt := 3) hx hb dX0_followDelegations_88 (by decide) ?_
              exact ih3  (i + 1) m9 (by omega) ((fo_next (a := (-1, m9)) (by omega) kc5 (by rw [eto]; exact nI_clamp (by omega)) (pk2_t kc10) rfl c18).symm.trans he) (by omega) _ _ hP hD hS ls (lv_sub hl [0, 3, 4, 5, 6] rfl)
            · skip
              refine lv_bipush (v := (-2)) hx hb dX0_followDelegations_82 (by decide) ?_
              refine xri hx hb hr hlocks hP hD hS ⟨m9, rfl, ?_, ?_⟩ dX0_followDelegations_84
              · exact congrArg Prod.fst ((fo_over (a := (-1, m9)) (by omega) kc5 (by rw [eto]; exact nI_clamp (by omega)) (pk2_t kc10) rfl c18).symm.trans he)
              · exact congrArg Prod.snd ((fo_over (a := (-1, m9)) (by omega) kc5 (by rw [eto]; exact nI_clamp (by omega)) (pk2_t kc10) rfl c18).symm.trans he)
        · skip
          have kc5 := b1_0.mp c5
          refine lv_goto (tgt := 85) hx hb dX0_followDelegations_26 (by decide) ?_
          refine lv_iinc (v := nI (i + 1)) (lv' := [(4, .int (nI (i + 1))), (0, .ref c0), (1, .ref ((pr k).1 3)), (2, .int x), (3, .int 8)]) hx hb dX0_followDelegations_85 hl (k := 0) rfl ((nI_add i 1).trans (congrArg nI (by omega))) (by decide) rfl (fun ls hl => ?_)
          refine lv_goto (tgt := 3) hx hb dX0_followDelegations_88 (by decide) ?_
          exact ih3  (i + 1) m9 (by omega) ((fo_skip (by omega) kc5).symm.trans he) (by omega) _ _ hP hD hS ls (lv_sub hl [0, 1, 2, 3, 4] rfl)
  exact loop3 ((pr k).1 16 + 1) 0 sea (by omega) (rfl) (by omega) _ _ hP hD hS ls (lv_sub hl [0, 1, 2, 3, 4] rfl)

abbrev pX0_search8 (E : xE) (c0 : Nat) (cr : Nat) (rev : Int32) (sea : Int32) (ci : Nat → Option Nat) (N : Nat) (ra : Nat → Nat) (pr : Nat → RowP) (rl : Nat) (x : Int32) (r : Int32) (w : va_W) : Prop := ∃ (sea2 : Int32), w = [(c0, .inr (1, [.ref cr, .int rev, .int sea2]))] ∧ r = (srF ci pr x 2 rl sea).1 ∧ (sea2 = (srF ci pr x 2 rl sea).2)
set_option maxHeartbeats 4000000 in
set_option maxRecDepth 100000 in
theorem kX0_search8 (l : Launch) (E : xE) (c0 : Nat) (cr : Nat) (rev : Int32) (sea : Int32) (ci : Nat → Option Nat) (N : Nat) (ra : Nat → Nat) (pr : Nat → RowP) (rl : Nat) (x : Int32) (hrl : rl < 10) (hok : ∀ i, i < N → rOk (pr i)) (hci : ∀ j i, ci j = some i → i < N) (hto : ∀ k, k < N → ∀ i, i < (pr k).1 16 → isN ((pr k).2.2.2 6 i) 10) : KT l yX0_search wsX0_search 6 147 0 0 E [(c0, .inr (1, [.ref cr, .int rev, .int sea]))] ([(cr, aR E 10 (fun j => (ci j).map ra))] ++ rowsW E N ra pr) [.ref c0, .int (nI rl), .int x, .int 8] (QI E (pX0_search8 E c0 cr rev sea ci N ra pr rl x)) := by
  refine KT.start (cc := cX0_search) (maxL := 5) (ret := (some .int)) (by decide) rfl (Nat.le_of_ble_eq_true rfl) ?_
  intro p e s m below meth c A H hx hb hr hlocks hml hts hown hin hP hR0 hD hap hev hz hA hS ls hl
  have hl : lv_has ls 5 [(0, .ref c0), (1, .int (nI rl)), (2, .int x), (3, .int 8)] := hl
  have hiX0 : ∀ w ∈ wsX00, w ∈ wsX0_search := by decide +kernel
  have hiX4 : ∀ w ∈ wsX40, w ∈ wsX0_search := by decide +kernel
  have hf21 := hts (.fieldLink RX0 21 "SignQuorum$Client" "searchedRoles" "I") (by decide +kernel)
  refine lv_aload_n hx hb dX0_search_0 rfl (lv_at hl 0 rfl) ?_
  refine lv_iload_n hx hb dX0_search_1 rfl (lv_at hl 1 rfl) ?_
  have hP := hP.sub (ws' := [] ++ [(c0, .inr (1, [.ref cr, .int rev, .int sea]))]) [0] rfl
  have hD := hD.sub (ws' := [] ++ [(c0, .inr (1, [.ref cr, .int rev, .int sea]))]) [0] (by decide) rfl
  refine xcr (va_runV (As := [.int (nI rl)]) (rest := []) ⟨hx, hb, hml, hown, hts⟩ (kX0_currentOfJ l E c0 cr rev sea ci ra rl (by first | assumption | omega) H.size) (cwV 1 hts gX0_search_X0_currentOf rfl rfl rfl (by decide +kernel) ⟨Nat.le_of_ble_eq_true rfl, Nat.le_of_ble_eq_true rfl⟩) ⟨CP.blind, (va_recv hev.1 hP (ci := 1) (q0 := 0) rfl rfl), (xpre hev hz hA hP hD hS hR0 hap [0, 1] rfl)⟩ rfl rfl hl.1 rfl (lv_room (Nat.le_of_ble_eq_true rfl)) dX0_search_2 ⟨Nat.le_of_ble_eq_true rfl, Nat.le_of_ble_eq_true rfl⟩) hP hD hS hA (fun r1 w2 H locs h3 hP hD hS => ?_)
  obtain ⟨rfl, rfl, h3⟩ := h3
  try dsimp only at h3
  have hP : va_P E.1 vwCl [(c0, .inr (1, [.ref cr, .int rev, .int sea]))] H := hP
  have hD : va_D A [(c0, .inr (1, [.ref cr, .int rev, .int sea]))] := hD
  cases o4 : ci rl with
  | none =>
    refine lv_astoreN (lv' := [(4, .null), (0, .ref c0), (1, .int (nI rl)), (2, .int x), (3, .int 8)]) hx hb dX0_search_5 hl (by decide) rfl (fun ls hl => ?_)
    refine lv_aloadN hx hb dX0_search_7 (lv_at hl 0 rfl) ?_
    refine lv_ifnullN (tgt := 18) hx hb dX0_search_9 (by decide) ?_
    refine lv_iconst (v := (-1)) hx hb dX0_search_18 (by decide) ?_
    refine xri hx hb hr hlocks hP hD hS ⟨sea, rfl, ?_, ?_⟩ dX0_search_19
    · exact (congrArg Prod.fst (srF_none o4 2)).symm
    · exact (congrArg Prod.snd (srF_none o4 2)).symm
  | some kk =>
    have hap := xmoreA (L := [(ra kk, .inr (5, [.int ((pr kk).2.1 0), .int (nI ((pr kk).1 17)), .int ((pr kk).2.1 1), .long ((pr kk).2.2.1), .ref ((pr kk).1 0), .int (nI ((pr kk).1 12)), .ref ((pr kk).1 1), .ref ((pr kk).1 2), .ref ((pr kk).1 3), .ref ((pr kk).1 4), .int (nI ((pr kk).1 13)), .int (nI ((pr kk).1 14)), .int ((pr kk).2.1 2)])), ((pr kk).1 0, aB E 16 ((pr kk).2.2.2 0)), ((pr kk).1 1, .inr (4, [.ref ((pr kk).1 5), .ref ((pr kk).1 6)])), ((pr kk).1 5, aI E 10 ((pr kk).2.2.2 1)), ((pr kk).1 6, aI E 10 ((pr kk).2.2.2 2)), ((pr kk).1 2, .inr (7, [.ref ((pr kk).1 7), .ref ((pr kk).1 8), .int (nI ((pr kk).1 15))])), ((pr kk).1 7, aI E 7 ((pr kk).2.2.2 3)), ((pr kk).1 8, aI E 7 ((pr kk).2.2.2 4)), ((pr kk).1 3, .inr (2, [.ref ((pr kk).1 9), .ref ((pr kk).1 10), .ref ((pr kk).1 11), .int (nI ((pr kk).1 16))])), ((pr kk).1 9, aI E 6 ((pr kk).2.2.2 5)), ((pr kk).1 10, aI E 6 ((pr kk).2.2.2 6)), ((pr kk).1 11, aZ E 6 ((pr kk).2.2.2 7)), ((pr kk).1 4, aI E 6 ((pr kk).2.2.2 8))]) hap (fun q9 h9 => List.mem_append_right _ (rowsW_mem (E := E) (ra := ra) (pr := pr) (hci _ _ o4) q9 h9))
    have hR0 := xmore (L := [(ra kk, .inr (5, [.int ((pr kk).2.1 0), .int (nI ((pr kk).1 17)), .int ((pr kk).2.1 1), .long ((pr kk).2.2.1), .ref ((pr kk).1 0), .int (nI ((pr kk).1 12)), .ref ((pr kk).1 1), .ref ((pr kk).1 2), .ref ((pr kk).1 3), .ref ((pr kk).1 4), .int (nI ((pr kk).1 13)), .int (nI ((pr kk).1 14)), .int ((pr kk).2.1 2)])), ((pr kk).1 0, aB E 16 ((pr kk).2.2.2 0)), ((pr kk).1 1, .inr (4, [.ref ((pr kk).1 5), .ref ((pr kk).1 6)])), ((pr kk).1 5, aI E 10 ((pr kk).2.2.2 1)), ((pr kk).1 6, aI E 10 ((pr kk).2.2.2 2)), ((pr kk).1 2, .inr (7, [.ref ((pr kk).1 7), .ref ((pr kk).1 8), .int (nI ((pr kk).1 15))])), ((pr kk).1 7, aI E 7 ((pr kk).2.2.2 3)), ((pr kk).1 8, aI E 7 ((pr kk).2.2.2 4)), ((pr kk).1 3, .inr (2, [.ref ((pr kk).1 9), .ref ((pr kk).1 10), .ref ((pr kk).1 11), .int (nI ((pr kk).1 16))])), ((pr kk).1 9, aI E 6 ((pr kk).2.2.2 5)), ((pr kk).1 10, aI E 6 ((pr kk).2.2.2 6)), ((pr kk).1 11, aZ E 6 ((pr kk).2.2.2 7)), ((pr kk).1 4, aI E 6 ((pr kk).2.2.2 8))]) hR0 (fun q9 h9 => List.mem_append_right _ (rowsW_mem (E := E) (ra := ra) (pr := pr) (hci _ _ o4) q9 h9))
    have hap : ∀ q ∈ ([(ra kk, .inr (5, [.int ((pr kk).2.1 0), .int (nI ((pr kk).1 17)), .int ((pr kk).2.1 1), .long ((pr kk).2.2.1), .ref ((pr kk).1 0), .int (nI ((pr kk).1 12)), .ref ((pr kk).1 1), .ref ((pr kk).1 2), .ref ((pr kk).1 3), .ref ((pr kk).1 4), .int (nI ((pr kk).1 13)), .int (nI ((pr kk).1 14)), .int ((pr kk).2.1 2)])), ((pr kk).1 0, aB E 16 ((pr kk).2.2.2 0)), ((pr kk).1 1, .inr (4, [.ref ((pr kk).1 5), .ref ((pr kk).1 6)])), ((pr kk).1 5, aI E 10 ((pr kk).2.2.2 1)), ((pr kk).1 6, aI E 10 ((pr kk).2.2.2 2)), ((pr kk).1 2, .inr (7, [.ref ((pr kk).1 7), .ref ((pr kk).1 8), .int (nI ((pr kk).1 15))])), ((pr kk).1 7, aI E 7 ((pr kk).2.2.2 3)), ((pr kk).1 8, aI E 7 ((pr kk).2.2.2 4)), ((pr kk).1 3, .inr (2, [.ref ((pr kk).1 9), .ref ((pr kk).1 10), .ref ((pr kk).1 11), .int (nI ((pr kk).1 16))])), ((pr kk).1 9, aI E 6 ((pr kk).2.2.2 5)), ((pr kk).1 10, aI E 6 ((pr kk).2.2.2 6)), ((pr kk).1 11, aZ E 6 ((pr kk).2.2.2 7)), ((pr kk).1 4, aI E 6 ((pr kk).2.2.2 8)), (cr, aR E 10 (fun j => (ci j).map ra))] ++ rowsW E N ra pr), ¬ A q.1 := hap
    have hR0 : va_P E.1 vwCl ([(ra kk, .inr (5, [.int ((pr kk).2.1 0), .int (nI ((pr kk).1 17)), .int ((pr kk).2.1 1), .long ((pr kk).2.2.1), .ref ((pr kk).1 0), .int (nI ((pr kk).1 12)), .ref ((pr kk).1 1), .ref ((pr kk).1 2), .ref ((pr kk).1 3), .ref ((pr kk).1 4), .int (nI ((pr kk).1 13)), .int (nI ((pr kk).1 14)), .int ((pr kk).2.1 2)])), ((pr kk).1 0, aB E 16 ((pr kk).2.2.2 0)), ((pr kk).1 1, .inr (4, [.ref ((pr kk).1 5), .ref ((pr kk).1 6)])), ((pr kk).1 5, aI E 10 ((pr kk).2.2.2 1)), ((pr kk).1 6, aI E 10 ((pr kk).2.2.2 2)), ((pr kk).1 2, .inr (7, [.ref ((pr kk).1 7), .ref ((pr kk).1 8), .int (nI ((pr kk).1 15))])), ((pr kk).1 7, aI E 7 ((pr kk).2.2.2 3)), ((pr kk).1 8, aI E 7 ((pr kk).2.2.2 4)), ((pr kk).1 3, .inr (2, [.ref ((pr kk).1 9), .ref ((pr kk).1 10), .ref ((pr kk).1 11), .int (nI ((pr kk).1 16))])), ((pr kk).1 9, aI E 6 ((pr kk).2.2.2 5)), ((pr kk).1 10, aI E 6 ((pr kk).2.2.2 6)), ((pr kk).1 11, aZ E 6 ((pr kk).2.2.2 7)), ((pr kk).1 4, aI E 6 ((pr kk).2.2.2 8)), (cr, aR E 10 (fun j => (ci j).map ra))] ++ rowsW E N ra pr) s.heap := hR0
    have hltkk : kk < N := hci _ _ o4
    obtain ⟨o12kk, o13kk, o14kk, o15kk, o16kk, o17kk⟩ := hok kk (hci _ _ o4)
    refine lv_astore (lv' := [(4, .ref (ra kk)), (0, .ref c0), (1, .int (nI rl)), (2, .int x), (3, .int 8)]) hx hb dX0_search_5 hl (by decide) rfl (fun ls hl => ?_)
    refine lv_aload hx hb dX0_search_7 (lv_at hl 0 rfl) ?_
    refine lv_ifnull hx hb dX0_search_9 ?_
    refine lv_iload_n hx hb dX0_search_12 rfl (lv_at hl 4 rfl) ?_
    refine lv_bipush (v := 10) hx hb dX0_search_13 (by decide) ?_
    refine lv_icmp_lt (tgt := 20) hx hb dX0_search_15 (by decide) (fun c5 => ?_) (fun c5 => absurd (by decide) c5)
    refine lv_aload_n hx hb dX0_search_20 rfl (lv_at hl 1 rfl) ?_
    refine lv_dup hx hb dX0_search_21 rfl ?_
    refine va_get (D := E.1) (ci := 1) (v := .int sea) (C := RX0) (T := TX0) (N := 3) hx hb hts hiX0 hown hev.1 hP 0 rfl rfl 2 (by decide) hf21 (fun _ h9 => h9) rfl dX0_search_22 ?_
    refine lv_iconst (v := 1) hx hb dX0_search_25 (by decide) ?_
    refine lv_iload_n hx hb dX0_search_26 rfl (lv_at hl 2 rfl) ?_
    refine lv_ishl hx hb dX0_search_27 ?_
    refine lv_ior hx hb dX0_search_28 ?_
    refine lv_topi (fun v6 ev6 => ?_)
    refine va_put (D := E.1) (ci := 1) (v := .int v6) (ty := tyX0 2) (C := RX0) (T := TX0) (N := 3) hx hb hts hiX0 tyX0 tyX0_ok nmX0 hown hev.1 hP hD hS 0 rfl rfl 2 (by decide) hf21 (fun _ h9 => h9) rfl (tyX0_ok 2 (by decide)) rfl rfl (Nat.le_of_ble_eq_true rfl) dX0_search_29 (fun H locs hP hD hS => ?_)
    have hP : va_P E.1 vwCl [(c0, .inr (1, [.ref cr, .int rev, .int v6]))] H := hP
    have hD : va_D A [(c0, .inr (1, [.ref cr, .int rev, .int v6]))] := hD
    refine lv_aload hx hb dX0_search_32 (lv_at hl 0 rfl) ?_
    refine lv_iload_n hx hb dX0_search_34 rfl (lv_at hl 3 rfl) ?_
    have hP := hP.sub (ws' := [] ++ [(c0, .inr (1, [.ref cr, .int rev, .int v6]))]) [0] rfl
    have hD := hD.sub (ws' := [] ++ [(c0, .inr (1, [.ref cr, .int rev, .int v6]))]) [0] (by decide) rfl
    refine xci (va_runV (As := [.int x]) (rest := []) ⟨hx, hb, hml, hown, hts⟩ (kX4_hasPath l E (ra kk) ((pr kk).2.1 0) (nI ((pr kk).1 17)) ((pr kk).2.1 1) ((pr kk).2.2.1) ((pr kk).1 0) ((pr kk).1 12) ((pr kk).1 1) ((pr kk).1 2) ((pr kk).1 3) ((pr kk).1 4) ((pr kk).1 13) (nI ((pr kk).1 14)) ((pr kk).2.1 2) ((pr kk).2.2.2 8) x (by first | assumption | omega) H.size) (cwV 1 hts gX0_search_X4_hasPath rfl rfl rfl (by decide +kernel) ⟨Nat.le_of_ble_eq_true rfl, Nat.le_of_ble_eq_true rfl⟩) ⟨CP.blind, (va_recv hev.1 (xro hR0 hap hS) (ci := 5) (q0 := 0) rfl rfl), (xpre hev hz hA hP hD hS hR0 hap [1, 13] rfl)⟩ rfl rfl hl.1 rfl (lv_room (Nat.le_of_ble_eq_true rfl)) dX0_search_35 ⟨Nat.le_of_ble_eq_true rfl, Nat.le_of_ble_eq_true rfl⟩) hP hD hS hA (fun r7 w8 H locs h9 hP hD hS => ?_)
    obtain ⟨rfl, rfl, h9⟩ := h9
    try dsimp only at h9
    have hP : va_P E.1 vwCl [(c0, .inr (1, [.ref cr, .int rev, .int v6]))] H := hP
    have hD : va_D A [(c0, .inr (1, [.ref cr, .int rev, .int v6]))] := hD
    refine lv_if_eq (tgt := 43) hx hb dX0_search_38 (by decide) (fun c10 => ?_) (fun c10 => ?_)
    · skip
      have kc10 := b1_0.mp c10
      refine lv_aload_n hx hb dX0_search_43 rfl (lv_at hl 1 rfl) ?_
      refine lv_aload hx hb dX0_search_44 (lv_at hl 0 rfl) ?_
      refine va_getN (D := E.1) (ci := 5) (v := .ref ((pr kk).1 3)) (C := RX4) (T := TX4) (N := 13) hx hb hts hiX4 hown hev.1 (xro hR0 hap hS) 0 rfl rfl 8 (by decide) (xNF16 hev.2.1) (fun _ h9 => h9) rfl dX0_search_46 ?_
      refine lv_iload_n hx hb dX0_search_49 rfl (lv_at hl 3 rfl) ?_
      refine lv_iload_n hx hb dX0_search_50 rfl (lv_at hl 4 rfl) ?_
      have hP := hP.sub (ws' := [(c0, .inr (1, [.ref cr, .int rev, .int v6]))] ++ []) [0] rfl
      have hD := hD.sub (ws' := [(c0, .inr (1, [.ref cr, .int rev, .int v6]))] ++ []) [0] (by decide) rfl
      refine xci (va_runV (As := [.ref ((pr kk).1 3), .int x, .int 8]) (rest := []) ⟨hx, hb, hml, hown, hts⟩ (kX0_follow8 l E c0 cr rev v6 ci N ra pr kk x (by first | assumption | omega) (by first | assumption | omega) (by first | assumption | omega) (by first | assumption | omega) H.size) (cwV 3 hts gX0_search_X0_followDelegations rfl rfl rfl (by decide +kernel) ⟨Nat.le_of_ble_eq_true rfl, Nat.le_of_ble_eq_true rfl⟩) ⟨CP.blind, (va_recv hev.1 hP.left (ci := 1) (q0 := 0) rfl rfl), (xpreT (X := rowsW E N ra pr) hev hz hA hP hD hS hR0 hap [13] rfl (fun q9 h9 => List.mem_append_right _ h9))⟩ rfl rfl hl.1 rfl (lv_room (Nat.le_of_ble_eq_true rfl)) dX0_search_51 ⟨Nat.le_of_ble_eq_true rfl, Nat.le_of_ble_eq_true rfl⟩) hP hD hS hA (fun r11 w12 H locs h13 hP hD hS => ?_)
      obtain ⟨sea214, rfl, rfl, h13⟩ := h13
      try dsimp only at h13
      have hP : va_P E.1 vwCl [(c0, .inr (1, [.ref cr, .int rev, .int sea214]))] H := hP
      have hD : va_D A [(c0, .inr (1, [.ref cr, .int rev, .int sea214]))] := hD
      refine xri hx hb hr hlocks hP hD hS ⟨sea214, rfl, ?_, ?_⟩ dX0_search_54
      · rw [ev6]
        exact (congrArg Prod.fst (srF_go (m := sea) 1 o4 kc10)).symm
      · rw [ev6] at h13
        exact h13.trans (congrArg Prod.snd (srF_go (m := sea) 1 o4 kc10)).symm
    · skip
      have kc10 := b1_n.mp c10
      refine lv_iload_n hx hb dX0_search_41 rfl (lv_at hl 2 rfl) ?_
      refine xri hx hb hr hlocks hP hD hS ⟨v6, rfl, ?_, ?_⟩ dX0_search_42
      · exact (congrArg Prod.fst (srF_hit (m := sea) 1 o4 kc10)).symm
      · rw [ev6]
        exact (congrArg Prod.snd (srF_hit (m := sea) 1 o4 kc10)).symm

abbrev pX0_follow7 (E : xE) (c0 : Nat) (cr : Nat) (rev : Int32) (sea : Int32) (ci : Nat → Option Nat) (N : Nat) (ra : Nat → Nat) (pr : Nat → RowP) (k : Nat) (x : Int32) (r : Int32) (w : va_W) : Prop := ∃ (sea2 : Int32), w = [(c0, .inr (1, [.ref cr, .int rev, .int sea2]))] ∧ r = (folF (srF ci pr x 2) (pr k) x ((pr k).1 16) 0 sea).1 ∧ (sea2 = (folF (srF ci pr x 2) (pr k) x ((pr k).1 16) 0 sea).2)
set_option maxHeartbeats 4000000 in
set_option maxRecDepth 100000 in
theorem kX0_follow7 (l : Launch) (E : xE) (c0 : Nat) (cr : Nat) (rev : Int32) (sea : Int32) (ci : Nat → Option Nat) (N : Nat) (ra : Nat → Nat) (pr : Nat → RowP) (k : Nat) (x : Int32) (hk : k < N) (hok : ∀ i, i < N → rOk (pr i)) (hci : ∀ j i, ci j = some i → i < N) (hto : ∀ k, k < N → ∀ i, i < (pr k).1 16 → isN ((pr k).2.2.2 6 i) 10) : KT l yX0_followDelegations wsX0_followDelegations 7 171 0 0 E [(c0, .inr (1, [.ref cr, .int rev, .int sea]))] ([(cr, aR E 10 (fun j => (ci j).map ra))] ++ rowsW E N ra pr) [.ref c0, .ref ((pr k).1 3), .int x, .int 7] (QI E (pX0_follow7 E c0 cr rev sea ci N ra pr k x)) := by
  refine KT.start (cc := cX0_followDelegations) (maxL := 7) (ret := (some .int)) (by decide) rfl (Nat.le_of_ble_eq_true rfl) ?_
  intro p e s m below meth c A H hx hb hr hlocks hml hts hown hin hP hR0 hD hap hev hz hA hS ls hl
  have hl : lv_has ls 7 [(0, .ref c0), (1, .ref ((pr k).1 3)), (2, .int x), (3, .int 7)] := hl
  have hiX1 : ∀ w ∈ wsX10, w ∈ wsX0_followDelegations := by decide +kernel
  have hiniX7 := hts (.initialized RX7) (by decide +kernel)
  have hstX7_fits := hts (.static yX7_fits) (by decide +kernel)
  have hi9 := hk
  have hap := xmoreA (L := [(ra k, .inr (5, [.int ((pr k).2.1 0), .int (nI ((pr k).1 17)), .int ((pr k).2.1 1), .long ((pr k).2.2.1), .ref ((pr k).1 0), .int (nI ((pr k).1 12)), .ref ((pr k).1 1), .ref ((pr k).1 2), .ref ((pr k).1 3), .ref ((pr k).1 4), .int (nI ((pr k).1 13)), .int (nI ((pr k).1 14)), .int ((pr k).2.1 2)])), ((pr k).1 0, aB E 16 ((pr k).2.2.2 0)), ((pr k).1 1, .inr (4, [.ref ((pr k).1 5), .ref ((pr k).1 6)])), ((pr k).1 5, aI E 10 ((pr k).2.2.2 1)), ((pr k).1 6, aI E 10 ((pr k).2.2.2 2)), ((pr k).1 2, .inr (7, [.ref ((pr k).1 7), .ref ((pr k).1 8), .int (nI ((pr k).1 15))])), ((pr k).1 7, aI E 7 ((pr k).2.2.2 3)), ((pr k).1 8, aI E 7 ((pr k).2.2.2 4)), ((pr k).1 3, .inr (2, [.ref ((pr k).1 9), .ref ((pr k).1 10), .ref ((pr k).1 11), .int (nI ((pr k).1 16))])), ((pr k).1 9, aI E 6 ((pr k).2.2.2 5)), ((pr k).1 10, aI E 6 ((pr k).2.2.2 6)), ((pr k).1 11, aZ E 6 ((pr k).2.2.2 7)), ((pr k).1 4, aI E 6 ((pr k).2.2.2 8))]) hap (fun q9 h9 => List.mem_append_right _ (rowsW_mem (E := E) (ra := ra) (pr := pr) (hk) q9 h9))
  have hR0 := xmore (L := [(ra k, .inr (5, [.int ((pr k).2.1 0), .int (nI ((pr k).1 17)), .int ((pr k).2.1 1), .long ((pr k).2.2.1), .ref ((pr k).1 0), .int (nI ((pr k).1 12)), .ref ((pr k).1 1), .ref ((pr k).1 2), .ref ((pr k).1 3), .ref ((pr k).1 4), .int (nI ((pr k).1 13)), .int (nI ((pr k).1 14)), .int ((pr k).2.1 2)])), ((pr k).1 0, aB E 16 ((pr k).2.2.2 0)), ((pr k).1 1, .inr (4, [.ref ((pr k).1 5), .ref ((pr k).1 6)])), ((pr k).1 5, aI E 10 ((pr k).2.2.2 1)), ((pr k).1 6, aI E 10 ((pr k).2.2.2 2)), ((pr k).1 2, .inr (7, [.ref ((pr k).1 7), .ref ((pr k).1 8), .int (nI ((pr k).1 15))])), ((pr k).1 7, aI E 7 ((pr k).2.2.2 3)), ((pr k).1 8, aI E 7 ((pr k).2.2.2 4)), ((pr k).1 3, .inr (2, [.ref ((pr k).1 9), .ref ((pr k).1 10), .ref ((pr k).1 11), .int (nI ((pr k).1 16))])), ((pr k).1 9, aI E 6 ((pr k).2.2.2 5)), ((pr k).1 10, aI E 6 ((pr k).2.2.2 6)), ((pr k).1 11, aZ E 6 ((pr k).2.2.2 7)), ((pr k).1 4, aI E 6 ((pr k).2.2.2 8))]) hR0 (fun q9 h9 => List.mem_append_right _ (rowsW_mem (E := E) (ra := ra) (pr := pr) (hk) q9 h9))
  have hap : ∀ q ∈ ([(ra k, .inr (5, [.int ((pr k).2.1 0), .int (nI ((pr k).1 17)), .int ((pr k).2.1 1), .long ((pr k).2.2.1), .ref ((pr k).1 0), .int (nI ((pr k).1 12)), .ref ((pr k).1 1), .ref ((pr k).1 2), .ref ((pr k).1 3), .ref ((pr k).1 4), .int (nI ((pr k).1 13)), .int (nI ((pr k).1 14)), .int ((pr k).2.1 2)])), ((pr k).1 0, aB E 16 ((pr k).2.2.2 0)), ((pr k).1 1, .inr (4, [.ref ((pr k).1 5), .ref ((pr k).1 6)])), ((pr k).1 5, aI E 10 ((pr k).2.2.2 1)), ((pr k).1 6, aI E 10 ((pr k).2.2.2 2)), ((pr k).1 2, .inr (7, [.ref ((pr k).1 7), .ref ((pr k).1 8), .int (nI ((pr k).1 15))])), ((pr k).1 7, aI E 7 ((pr k).2.2.2 3)), ((pr k).1 8, aI E 7 ((pr k).2.2.2 4)), ((pr k).1 3, .inr (2, [.ref ((pr k).1 9), .ref ((pr k).1 10), .ref ((pr k).1 11), .int (nI ((pr k).1 16))])), ((pr k).1 9, aI E 6 ((pr k).2.2.2 5)), ((pr k).1 10, aI E 6 ((pr k).2.2.2 6)), ((pr k).1 11, aZ E 6 ((pr k).2.2.2 7)), ((pr k).1 4, aI E 6 ((pr k).2.2.2 8)), (cr, aR E 10 (fun j => (ci j).map ra))] ++ rowsW E N ra pr), ¬ A q.1 := hap
  have hR0 : va_P E.1 vwCl ([(ra k, .inr (5, [.int ((pr k).2.1 0), .int (nI ((pr k).1 17)), .int ((pr k).2.1 1), .long ((pr k).2.2.1), .ref ((pr k).1 0), .int (nI ((pr k).1 12)), .ref ((pr k).1 1), .ref ((pr k).1 2), .ref ((pr k).1 3), .ref ((pr k).1 4), .int (nI ((pr k).1 13)), .int (nI ((pr k).1 14)), .int ((pr k).2.1 2)])), ((pr k).1 0, aB E 16 ((pr k).2.2.2 0)), ((pr k).1 1, .inr (4, [.ref ((pr k).1 5), .ref ((pr k).1 6)])), ((pr k).1 5, aI E 10 ((pr k).2.2.2 1)), ((pr k).1 6, aI E 10 ((pr k).2.2.2 2)), ((pr k).1 2, .inr (7, [.ref ((pr k).1 7), .ref ((pr k).1 8), .int (nI ((pr k).1 15))])), ((pr k).1 7, aI E 7 ((pr k).2.2.2 3)), ((pr k).1 8, aI E 7 ((pr k).2.2.2 4)), ((pr k).1 3, .inr (2, [.ref ((pr k).1 9), .ref ((pr k).1 10), .ref ((pr k).1 11), .int (nI ((pr k).1 16))])), ((pr k).1 9, aI E 6 ((pr k).2.2.2 5)), ((pr k).1 10, aI E 6 ((pr k).2.2.2 6)), ((pr k).1 11, aZ E 6 ((pr k).2.2.2 7)), ((pr k).1 4, aI E 6 ((pr k).2.2.2 8)), (cr, aR E 10 (fun j => (ci j).map ra))] ++ rowsW E N ra pr) s.heap := hR0
  have hltk : k < N := hk
  obtain ⟨o12k, o13k, o14k, o15k, o16k, o17k⟩ := hok k (hk)
  refine lv_iconst (v := 0) hx hb dX0_followDelegations_0 (by decide) ?_
  refine lv_istore (lv' := [(4, .int 0), (0, .ref c0), (1, .ref ((pr k).1 3)), (2, .int x), (3, .int 7)]) hx hb dX0_followDelegations_1 hl (by decide) rfl (fun ls hl => ?_)
  have loop3 : ∀ (fz3 : Nat) (i : Nat) (m9 : Int32), (i ≤ (pr k).1 16) → (folF (srF ci pr x 2) (pr k) x ((pr k).1 16 - i) i m9 = folF (srF ci pr x 2) (pr k) x ((pr k).1 16) 0 sea) → ((pr k).1 16 - i < fz3) → ∀ (H : Heap) (locs : List Loc), va_P E.1 vwCl [(c0, .inr (1, [.ref cr, .int rev, .int m9]))] H → va_D A [(c0, .inr (1, [.ref cr, .int rev, .int m9]))] → va_S A s.heap H locs → ∀ ls : Array Slot, lv_has ls 7 [(4, .int (nI i)), (0, .ref c0), (1, .ref ((pr k).1 3)), (2, .int x), (3, .int 7)] → W p l e ({ frames := 7, cells := 0, slots := 0, locals := 171 } : Room) s m ([.ref c0, .ref ((pr k).1 3), .int x, .int 7] : List Value).toArray below meth c H locs 0 0 (MQ below (QI E (pX0_follow7 E c0 cr rev sea ci N ra pr k x) A) ([.ref c0, .ref ((pr k).1 3), .int x, .int 7] : List Value).toArray s 0 0 A) (F0 m 3 ls []) := by
    intro fz3
    induction fz3 with
    | zero =>
      intro i m9 hi he hfuel
      exact absurd hfuel (by omega)
    | succ fz3 ih3 =>
      intro i m9 hi he hfuel H locs hP hD hS ls hl
      refine lv_iload hx hb dX0_followDelegations_3 (lv_at hl 0 rfl) ?_
      refine lv_aload_n hx hb dX0_followDelegations_5 rfl (lv_at hl 2 rfl) ?_
      refine va_getN (D := E.1) (ci := 2) (v := .int (nI ((pr k).1 16))) (C := RX1) (T := TX1) (N := 4) hx hb hts hiX1 hown hev.1 (xro hR0 hap hS) 8 rfl rfl 3 (by decide) (xNF4 hev.2.1) (fun _ h9 => h9) rfl dX0_followDelegations_6 ?_
      refine lv_icmp_ge (tgt := 91) hx hb dX0_followDelegations_9 (by decide) (fun c1 => ?_) (fun c1 => ?_)
      · skip
        have kc1 : ((pr k).1 16) ≤ i := (nI_leI (a := ((pr k).1 16)) (b := i) (by omega) (by omega)).mp c1
        refine lv_iconst (v := (-1)) hx hb dX0_followDelegations_91 (by decide) ?_
        refine xri hx hb hr hlocks hP hD hS ⟨m9, rfl, ?_, ?_⟩ dX0_followDelegations_92
        · exact congrArg Prod.fst ((fo_end (by omega)).symm.trans he)
        · exact congrArg Prod.snd ((fo_end (by omega)).symm.trans he)
      · skip
        have kc1 : ¬ ((pr k).1 16) ≤ i := fun h9 => c1 ((nI_leI (a := ((pr k).1 16)) (b := i) (by omega) (by omega)).mpr h9)
        refine lv_aload_n hx hb dX0_followDelegations_12 rfl (lv_at hl 2 rfl) ?_
        refine va_getN (D := E.1) (ci := 2) (v := .ref ((pr k).1 9)) (C := RX1) (T := TX1) (N := 4) hx hb hts hiX1 hown hev.1 (xro hR0 hap hS) 8 rfl rfl 0 (by decide) (xNF1 hev.2.1) (fun _ h9 => h9) rfl dX0_followDelegations_13 ?_
        refine lv_iload hx hb dX0_followDelegations_16 (lv_at hl 0 rfl) ?_
        refine xiald (k := (i)) hx hb hev.1 (xro hR0 hap hS) 9 1 rfl rfl (by omega) (by decide) dX0_followDelegations_18 ?_
        refine lv_iload_n hx hb dX0_followDelegations_19 rfl (lv_at hl 3 rfl) ?_
        have hP := hP.sub (ws' := [] ++ [(c0, .inr (1, [.ref cr, .int rev, .int m9]))]) [0] rfl
        have hD := hD.sub (ws' := [] ++ [(c0, .inr (1, [.ref cr, .int rev, .int m9]))]) [0] (by decide) rfl
        refine xci (va_runSN (As := [.int (((pr k).2.2.2 5) i), .int x]) (rest := []) ⟨hx, hb, hml, hown, hts⟩ (kX7_fits l E (((pr k).2.2.2 5) i) x  H.size) ⟨va_cnB 2 hts gX0_followDelegations_X7_fits_n108 rfl rfl rfl (xNM6 hev.2.1) hiniX7 (by decide +kernel) ⟨Nat.le_of_ble_eq_true rfl, Nat.le_of_ble_eq_true rfl⟩, hstX7_fits, trivial⟩ ⟨CP.blind, (xpre hev hz hA hP hD hS hR0 hap [] rfl)⟩ rfl rfl hl.1 rfl (lv_room (Nat.le_of_ble_eq_true rfl)) dX0_followDelegations_20 ⟨Nat.le_of_ble_eq_true rfl, Nat.le_of_ble_eq_true rfl⟩) hP hD hS hA (fun r2 w3 H locs h4 hP hD hS => ?_)
        obtain ⟨rfl, rfl, h4⟩ := h4
        try dsimp only at h4
        have hP : va_P E.1 vwCl [(c0, .inr (1, [.ref cr, .int rev, .int m9]))] H := hP
        have hD : va_D A [(c0, .inr (1, [.ref cr, .int rev, .int m9]))] := hD
        refine lv_if_ne (tgt := 29) hx hb dX0_followDelegations_23 (by decide) (fun c5 => ?_) (fun c5 => ?_)
        · skip
          have kc5 := b1_n.mp c5
          refine lv_aload_n hx hb dX0_followDelegations_29 rfl (lv_at hl 2 rfl) ?_
          refine va_getN (D := E.1) (ci := 2) (v := .ref ((pr k).1 10)) (C := RX1) (T := TX1) (N := 4) hx hb hts hiX1 hown hev.1 (xro hR0 hap hS) 8 rfl rfl 1 (by decide) (xNF2 hev.2.1) (fun _ h9 => h9) rfl dX0_followDelegations_30 ?_
          refine lv_iload hx hb dX0_followDelegations_33 (lv_at hl 0 rfl) ?_
          refine xiald (k := (i)) hx hb hev.1 (xro hR0 hap hS) 10 1 rfl rfl (by omega) (by decide) dX0_followDelegations_35 ?_
          obtain ⟨to6, hto6, eto⟩ := hto k hk i (by omega)
          refine xtop (y := nI to6) (eto) ?_
          refine lv_istore (lv' := [(5, .int (nI to6)), (4, .int (nI i)), (0, .ref c0), (1, .ref ((pr k).1 3)), (2, .int x), (3, .int 7)]) hx hb dX0_followDelegations_36 hl (by decide) rfl (fun ls hl => ?_)
          refine lv_aload_n hx hb dX0_followDelegations_38 rfl (lv_at hl 2 rfl) ?_
          refine lv_iload hx hb dX0_followDelegations_39 (lv_at hl 0 rfl) ?_
          have hP := hP.sub (ws' := [] ++ [(c0, .inr (1, [.ref cr, .int rev, .int m9]))]) [0] rfl
          have hD := hD.sub (ws' := [] ++ [(c0, .inr (1, [.ref cr, .int rev, .int m9]))]) [0] (by decide) rfl
          refine xci (va_runV (As := [.int (nI to6)]) (rest := []) ⟨hx, hb, hml, hown, hts⟩ (kX0_isSearched l E c0 cr rev m9 (nI to6)  H.size) (cwV 1 hts gX0_followDelegations_X0_isSearched rfl rfl rfl (by decide +kernel) ⟨Nat.le_of_ble_eq_true rfl, Nat.le_of_ble_eq_true rfl⟩) ⟨CP.blind, (va_recv hev.1 hP (ci := 1) (q0 := 0) rfl rfl), (xpre hev hz hA hP hD hS hR0 hap [0] rfl)⟩ rfl rfl hl.1 rfl (lv_room (Nat.le_of_ble_eq_true rfl)) dX0_followDelegations_41 ⟨Nat.le_of_ble_eq_true rfl, Nat.le_of_ble_eq_true rfl⟩) hP hD hS hA (fun r7 w8 H locs h9 hP hD hS => ?_)
          obtain ⟨rfl, rfl, h9⟩ := h9
          try dsimp only at h9
          have hP : va_P E.1 vwCl [(c0, .inr (1, [.ref cr, .int rev, .int m9]))] H := hP
          have hD : va_D A [(c0, .inr (1, [.ref cr, .int rev, .int m9]))] := hD
          refine lv_if_eq (tgt := 51) hx hb dX0_followDelegations_44 (by decide) (fun c10 => ?_) (fun c10 => ?_)
          · skip
            have kc10 := b1_0.mp c10
            refine lv_aload_n hx hb dX0_followDelegations_51 rfl (lv_at hl 2 rfl) ?_
            refine lv_iload hx hb dX0_followDelegations_52 (lv_at hl 0 rfl) ?_
            refine lv_iload_n hx hb dX0_followDelegations_54 rfl (lv_at hl 4 rfl) ?_
            refine lv_iload_n hx hb dX0_followDelegations_55 rfl (lv_at hl 5 rfl) ?_
            refine lv_iconst (v := 1) hx hb dX0_followDelegations_56 (by decide) ?_
            refine lv_iadd hx hb dX0_followDelegations_57 ?_
            refine xtop (y := 8) (by decide) ?_
            have hP := hP.sub (ws' := [(c0, .inr (1, [.ref cr, .int rev, .int m9]))] ++ []) [0] rfl
            have hD := hD.sub (ws' := [(c0, .inr (1, [.ref cr, .int rev, .int m9]))] ++ []) [0] (by decide) rfl
            refine xci (va_runV (As := [.int (nI to6), .int x, .int 8]) (rest := []) ⟨hx, hb, hml, hown, hts⟩ (kX0_search8 l E c0 cr rev m9 ci N ra pr to6 x (by first | assumption | omega) (by first | assumption | omega) (by first | assumption | omega) (by first | assumption | omega) H.size) (cwV 3 hts gX0_followDelegations_X0_search rfl rfl rfl (by decide +kernel) ⟨Nat.le_of_ble_eq_true rfl, Nat.le_of_ble_eq_true rfl⟩) ⟨CP.blind, (va_recv hev.1 hP.left (ci := 1) (q0 := 0) rfl rfl), (xpreT (X := rowsW E N ra pr) hev hz hA hP hD hS hR0 hap [13] rfl (fun q9 h9 => List.mem_append_right _ h9))⟩ rfl rfl hl.1 rfl (lv_room (Nat.le_of_ble_eq_true rfl)) dX0_followDelegations_58 ⟨Nat.le_of_ble_eq_true rfl, Nat.le_of_ble_eq_true rfl⟩) hP hD hS hA (fun r11 w12 H locs h13 hP hD hS => ?_)
            obtain ⟨sea214, rfl, rfl, h13⟩ := h13
            try dsimp only at h13
            have hP : va_P E.1 vwCl [(c0, .inr (1, [.ref cr, .int rev, .int sea214]))] H := hP
            have hD : va_D A [(c0, .inr (1, [.ref cr, .int rev, .int sea214]))] := hD
            refine lv_istore (lv' := [(6, .int ((srF ci pr x 2 to6 m9).1)), (5, .int (nI to6)), (4, .int (nI i)), (0, .ref c0), (1, .ref ((pr k).1 3)), (2, .int x), (3, .int 7)]) hx hb dX0_followDelegations_61 hl (by decide) rfl (fun ls hl => ?_)
            refine lv_iload hx hb dX0_followDelegations_63 (lv_at hl 0 rfl) ?_
            refine lv_iconst (v := (-1)) hx hb dX0_followDelegations_65 (by decide) ?_
            refine lv_icmp_eq (tgt := 72) hx hb dX0_followDelegations_66 (by decide) (fun c15 => ?_) (fun c15 => ?_)
            · skip
              refine lv_aload_n hx hb dX0_followDelegations_72 rfl (lv_at hl 4 rfl) ?_
              refine va_getN (D := E.1) (ci := 2) (v := .ref ((pr k).1 11)) (C := RX1) (T := TX1) (N := 4) hx hb hts hiX1 hown hev.1 (xro hR0 hap hS) 8 rfl rfl 2 (by decide) (xNF3 hev.2.1) (fun _ h9 => h9) rfl dX0_followDelegations_73 ?_
              refine lv_iload hx hb dX0_followDelegations_76 (lv_at hl 2 rfl) ?_
              refine xzald (k := (i)) hx hb hev.1 (xro hR0 hap hS) 11 3 rfl rfl (by omega) (by decide) dX0_followDelegations_78 ?_
              refine lv_if_eq (tgt := 85) hx hb dX0_followDelegations_79 (by decide) (fun c16 => ?_) (fun c16 => ?_)
              · skip
                refine lv_iinc (v := nI (i + 1)) (lv' := [(4, .int (nI (i + 1))), (6, .int ((srF ci pr x 2 to6 m9).1)), (5, .int (nI to6)), (0, .ref c0), (1, .ref ((pr k).1 3)), (2, .int x), (3, .int 7)]) hx hb dX0_followDelegations_85 hl (k := 2) rfl ((nI_add i 1).trans (congrArg nI (by omega))) (by decide) rfl (fun ls hl => ?_)
                refine lv_goto (tgt := 3) hx hb dX0_followDelegations_88 (by decide) ?_
                exact ih3  (i + 1) sea214 (by omega) (((fo_next (a := (srF ci pr x 2 to6 m9)) (by omega) kc5 (by rw [eto]; exact nI_clamp (by omega)) (pk2_f kc10) c15 c16).trans (by rw [← h13])).symm.trans he) (by omega) _ _ hP hD hS ls (lv_sub hl [0, 3, 4, 5, 6] rfl)
              · skip
                refine lv_bipush (v := (-2)) hx hb dX0_followDelegations_82 (by decide) ?_
                refine xri hx hb hr hlocks hP hD hS ⟨sea214, rfl, ?_, ?_⟩ dX0_followDelegations_84
                · exact congrArg Prod.fst ((fo_over (a := (srF ci pr x 2 to6 m9)) (by omega) kc5 (by rw [eto]; exact nI_clamp (by omega)) (pk2_f kc10) c15 c16).symm.trans he)
                · have q9 := congrArg Prod.snd ((fo_over (a := (srF ci pr x 2 to6 m9)) (by omega) kc5 (by rw [eto]; exact nI_clamp (by omega)) (pk2_f kc10) c15 c16).symm.trans he)
                  exact h13.trans q9
            · skip
              refine lv_iload hx hb dX0_followDelegations_69 (lv_at hl 0 rfl) ?_
              refine xri hx hb hr hlocks hP hD hS ⟨sea214, rfl, ?_, ?_⟩ dX0_followDelegations_71
              · exact (congrArg Prod.fst ((fo_hit (a := (srF ci pr x 2 to6 m9)) (by omega) kc5 (by rw [eto]; exact nI_clamp (by omega)) (pk2_f kc10) c15).symm.trans he))
              · exact h13.trans (congrArg Prod.snd ((fo_hit (a := (srF ci pr x 2 to6 m9)) (by omega) kc5 (by rw [eto]; exact nI_clamp (by omega)) (pk2_f kc10) c15).symm.trans he))
          · skip
            have kc10 := b1_n.mp c10
            refine lv_iconst (v := (-1)) hx hb dX0_followDelegations_47 (by decide) ?_
            refine lv_goto (tgt := 61) hx hb dX0_followDelegations_48 (by decide) ?_
            refine lv_istore (lv' := [(6, .int (-1)), (5, .int (nI to6)), (4, .int (nI i)), (0, .ref c0), (1, .ref ((pr k).1 3)), (2, .int x), (3, .int 7)]) hx hb dX0_followDelegations_61 hl (by decide) rfl (fun ls hl => ?_)
            refine lv_iload hx hb dX0_followDelegations_63 (lv_at hl 0 rfl) ?_
            refine lv_iconst (v := (-1)) hx hb dX0_followDelegations_65 (by decide) ?_
            refine lv_icmp_eq (tgt := 72) hx hb dX0_followDelegations_66 (by decide) (fun c17 => ?_) (fun c17 => absurd (by decide) c17)
            refine lv_aload_n hx hb dX0_followDelegations_72 rfl (lv_at hl 4 rfl) ?_
            refine va_getN (D := E.1) (ci := 2) (v := .ref ((pr k).1 11)) (C := RX1) (T := TX1) (N := 4) hx hb hts hiX1 hown hev.1 (xro hR0 hap hS) 8 rfl rfl 2 (by decide) (xNF3 hev.2.1) (fun _ h9 => h9) rfl dX0_followDelegations_73 ?_
            refine lv_iload hx hb dX0_followDelegations_76 (lv_at hl 2 rfl) ?_
            refine xzald (k := (i)) hx hb hev.1 (xro hR0 hap hS) 11 3 rfl rfl (by omega) (by decide) dX0_followDelegations_78 ?_
            refine lv_if_eq (tgt := 85) hx hb dX0_followDelegations_79 (by decide) (fun c18 => ?_) (fun c18 => ?_)
            · skip
              refine lv_iinc (v := nI (i + 1)) (lv' := [(4, .int (nI (i + 1))), (6, .int (-1)), (5, .int (nI to6)), (0, .ref c0), (1, .ref ((pr k).1 3)), (2, .int x), (3, .int 7)]) hx hb dX0_followDelegations_85 hl (k := 2) rfl ((nI_add i 1).trans (congrArg nI (by omega))) (by decide) rfl (fun ls hl => ?_)
              refine lv_goto (tgt := 3) hx hb dX0_followDelegations_88 (by decide) ?_
              exact ih3  (i + 1) m9 (by omega) ((fo_next (a := (-1, m9)) (by omega) kc5 (by rw [eto]; exact nI_clamp (by omega)) (pk2_t kc10) rfl c18).symm.trans he) (by omega) _ _ hP hD hS ls (lv_sub hl [0, 3, 4, 5, 6] rfl)
            · skip
              refine lv_bipush (v := (-2)) hx hb dX0_followDelegations_82 (by decide) ?_
              refine xri hx hb hr hlocks hP hD hS ⟨m9, rfl, ?_, ?_⟩ dX0_followDelegations_84
              · exact congrArg Prod.fst ((fo_over (a := (-1, m9)) (by omega) kc5 (by rw [eto]; exact nI_clamp (by omega)) (pk2_t kc10) rfl c18).symm.trans he)
              · exact congrArg Prod.snd ((fo_over (a := (-1, m9)) (by omega) kc5 (by rw [eto]; exact nI_clamp (by omega)) (pk2_t kc10) rfl c18).symm.trans he)
        · skip
          have kc5 := b1_0.mp c5
          refine lv_goto (tgt := 85) hx hb dX0_followDelegations_26 (by decide) ?_
          refine lv_iinc (v := nI (i + 1)) (lv' := [(4, .int (nI (i + 1))), (0, .ref c0), (1, .ref ((pr k).1 3)), (2, .int x), (3, .int 7)]) hx hb dX0_followDelegations_85 hl (k := 0) rfl ((nI_add i 1).trans (congrArg nI (by omega))) (by decide) rfl (fun ls hl => ?_)
          refine lv_goto (tgt := 3) hx hb dX0_followDelegations_88 (by decide) ?_
          exact ih3  (i + 1) m9 (by omega) ((fo_skip (by omega) kc5).symm.trans he) (by omega) _ _ hP hD hS ls (lv_sub hl [0, 1, 2, 3, 4] rfl)
  exact loop3 ((pr k).1 16 + 1) 0 sea (by omega) (rfl) (by omega) _ _ hP hD hS ls (lv_sub hl [0, 1, 2, 3, 4] rfl)

abbrev pX0_search7 (E : xE) (c0 : Nat) (cr : Nat) (rev : Int32) (sea : Int32) (ci : Nat → Option Nat) (N : Nat) (ra : Nat → Nat) (pr : Nat → RowP) (rl : Nat) (x : Int32) (r : Int32) (w : va_W) : Prop := ∃ (sea2 : Int32), w = [(c0, .inr (1, [.ref cr, .int rev, .int sea2]))] ∧ r = (srF ci pr x 3 rl sea).1 ∧ (sea2 = (srF ci pr x 3 rl sea).2)
set_option maxHeartbeats 4000000 in
set_option maxRecDepth 100000 in
theorem kX0_search7 (l : Launch) (E : xE) (c0 : Nat) (cr : Nat) (rev : Int32) (sea : Int32) (ci : Nat → Option Nat) (N : Nat) (ra : Nat → Nat) (pr : Nat → RowP) (rl : Nat) (x : Int32) (hrl : rl < 10) (hok : ∀ i, i < N → rOk (pr i)) (hci : ∀ j i, ci j = some i → i < N) (hto : ∀ k, k < N → ∀ i, i < (pr k).1 16 → isN ((pr k).2.2.2 6 i) 10) : KT l yX0_search wsX0_search 8 197 0 0 E [(c0, .inr (1, [.ref cr, .int rev, .int sea]))] ([(cr, aR E 10 (fun j => (ci j).map ra))] ++ rowsW E N ra pr) [.ref c0, .int (nI rl), .int x, .int 7] (QI E (pX0_search7 E c0 cr rev sea ci N ra pr rl x)) := by
  refine KT.start (cc := cX0_search) (maxL := 5) (ret := (some .int)) (by decide) rfl (Nat.le_of_ble_eq_true rfl) ?_
  intro p e s m below meth c A H hx hb hr hlocks hml hts hown hin hP hR0 hD hap hev hz hA hS ls hl
  have hl : lv_has ls 5 [(0, .ref c0), (1, .int (nI rl)), (2, .int x), (3, .int 7)] := hl
  have hiX0 : ∀ w ∈ wsX00, w ∈ wsX0_search := by decide +kernel
  have hiX4 : ∀ w ∈ wsX40, w ∈ wsX0_search := by decide +kernel
  have hf21 := hts (.fieldLink RX0 21 "SignQuorum$Client" "searchedRoles" "I") (by decide +kernel)
  refine lv_aload_n hx hb dX0_search_0 rfl (lv_at hl 0 rfl) ?_
  refine lv_iload_n hx hb dX0_search_1 rfl (lv_at hl 1 rfl) ?_
  have hP := hP.sub (ws' := [] ++ [(c0, .inr (1, [.ref cr, .int rev, .int sea]))]) [0] rfl
  have hD := hD.sub (ws' := [] ++ [(c0, .inr (1, [.ref cr, .int rev, .int sea]))]) [0] (by decide) rfl
  refine xcr (va_runV (As := [.int (nI rl)]) (rest := []) ⟨hx, hb, hml, hown, hts⟩ (kX0_currentOfJ l E c0 cr rev sea ci ra rl (by first | assumption | omega) H.size) (cwV 1 hts gX0_search_X0_currentOf rfl rfl rfl (by decide +kernel) ⟨Nat.le_of_ble_eq_true rfl, Nat.le_of_ble_eq_true rfl⟩) ⟨CP.blind, (va_recv hev.1 hP (ci := 1) (q0 := 0) rfl rfl), (xpre hev hz hA hP hD hS hR0 hap [0, 1] rfl)⟩ rfl rfl hl.1 rfl (lv_room (Nat.le_of_ble_eq_true rfl)) dX0_search_2 ⟨Nat.le_of_ble_eq_true rfl, Nat.le_of_ble_eq_true rfl⟩) hP hD hS hA (fun r1 w2 H locs h3 hP hD hS => ?_)
  obtain ⟨rfl, rfl, h3⟩ := h3
  try dsimp only at h3
  have hP : va_P E.1 vwCl [(c0, .inr (1, [.ref cr, .int rev, .int sea]))] H := hP
  have hD : va_D A [(c0, .inr (1, [.ref cr, .int rev, .int sea]))] := hD
  cases o4 : ci rl with
  | none =>
    refine lv_astoreN (lv' := [(4, .null), (0, .ref c0), (1, .int (nI rl)), (2, .int x), (3, .int 7)]) hx hb dX0_search_5 hl (by decide) rfl (fun ls hl => ?_)
    refine lv_aloadN hx hb dX0_search_7 (lv_at hl 0 rfl) ?_
    refine lv_ifnullN (tgt := 18) hx hb dX0_search_9 (by decide) ?_
    refine lv_iconst (v := (-1)) hx hb dX0_search_18 (by decide) ?_
    refine xri hx hb hr hlocks hP hD hS ⟨sea, rfl, ?_, ?_⟩ dX0_search_19
    · exact (congrArg Prod.fst (srF_none o4 3)).symm
    · exact (congrArg Prod.snd (srF_none o4 3)).symm
  | some kk =>
    have hap := xmoreA (L := [(ra kk, .inr (5, [.int ((pr kk).2.1 0), .int (nI ((pr kk).1 17)), .int ((pr kk).2.1 1), .long ((pr kk).2.2.1), .ref ((pr kk).1 0), .int (nI ((pr kk).1 12)), .ref ((pr kk).1 1), .ref ((pr kk).1 2), .ref ((pr kk).1 3), .ref ((pr kk).1 4), .int (nI ((pr kk).1 13)), .int (nI ((pr kk).1 14)), .int ((pr kk).2.1 2)])), ((pr kk).1 0, aB E 16 ((pr kk).2.2.2 0)), ((pr kk).1 1, .inr (4, [.ref ((pr kk).1 5), .ref ((pr kk).1 6)])), ((pr kk).1 5, aI E 10 ((pr kk).2.2.2 1)), ((pr kk).1 6, aI E 10 ((pr kk).2.2.2 2)), ((pr kk).1 2, .inr (7, [.ref ((pr kk).1 7), .ref ((pr kk).1 8), .int (nI ((pr kk).1 15))])), ((pr kk).1 7, aI E 7 ((pr kk).2.2.2 3)), ((pr kk).1 8, aI E 7 ((pr kk).2.2.2 4)), ((pr kk).1 3, .inr (2, [.ref ((pr kk).1 9), .ref ((pr kk).1 10), .ref ((pr kk).1 11), .int (nI ((pr kk).1 16))])), ((pr kk).1 9, aI E 6 ((pr kk).2.2.2 5)), ((pr kk).1 10, aI E 6 ((pr kk).2.2.2 6)), ((pr kk).1 11, aZ E 6 ((pr kk).2.2.2 7)), ((pr kk).1 4, aI E 6 ((pr kk).2.2.2 8))]) hap (fun q9 h9 => List.mem_append_right _ (rowsW_mem (E := E) (ra := ra) (pr := pr) (hci _ _ o4) q9 h9))
    have hR0 := xmore (L := [(ra kk, .inr (5, [.int ((pr kk).2.1 0), .int (nI ((pr kk).1 17)), .int ((pr kk).2.1 1), .long ((pr kk).2.2.1), .ref ((pr kk).1 0), .int (nI ((pr kk).1 12)), .ref ((pr kk).1 1), .ref ((pr kk).1 2), .ref ((pr kk).1 3), .ref ((pr kk).1 4), .int (nI ((pr kk).1 13)), .int (nI ((pr kk).1 14)), .int ((pr kk).2.1 2)])), ((pr kk).1 0, aB E 16 ((pr kk).2.2.2 0)), ((pr kk).1 1, .inr (4, [.ref ((pr kk).1 5), .ref ((pr kk).1 6)])), ((pr kk).1 5, aI E 10 ((pr kk).2.2.2 1)), ((pr kk).1 6, aI E 10 ((pr kk).2.2.2 2)), ((pr kk).1 2, .inr (7, [.ref ((pr kk).1 7), .ref ((pr kk).1 8), .int (nI ((pr kk).1 15))])), ((pr kk).1 7, aI E 7 ((pr kk).2.2.2 3)), ((pr kk).1 8, aI E 7 ((pr kk).2.2.2 4)), ((pr kk).1 3, .inr (2, [.ref ((pr kk).1 9), .ref ((pr kk).1 10), .ref ((pr kk).1 11), .int (nI ((pr kk).1 16))])), ((pr kk).1 9, aI E 6 ((pr kk).2.2.2 5)), ((pr kk).1 10, aI E 6 ((pr kk).2.2.2 6)), ((pr kk).1 11, aZ E 6 ((pr kk).2.2.2 7)), ((pr kk).1 4, aI E 6 ((pr kk).2.2.2 8))]) hR0 (fun q9 h9 => List.mem_append_right _ (rowsW_mem (E := E) (ra := ra) (pr := pr) (hci _ _ o4) q9 h9))
    have hap : ∀ q ∈ ([(ra kk, .inr (5, [.int ((pr kk).2.1 0), .int (nI ((pr kk).1 17)), .int ((pr kk).2.1 1), .long ((pr kk).2.2.1), .ref ((pr kk).1 0), .int (nI ((pr kk).1 12)), .ref ((pr kk).1 1), .ref ((pr kk).1 2), .ref ((pr kk).1 3), .ref ((pr kk).1 4), .int (nI ((pr kk).1 13)), .int (nI ((pr kk).1 14)), .int ((pr kk).2.1 2)])), ((pr kk).1 0, aB E 16 ((pr kk).2.2.2 0)), ((pr kk).1 1, .inr (4, [.ref ((pr kk).1 5), .ref ((pr kk).1 6)])), ((pr kk).1 5, aI E 10 ((pr kk).2.2.2 1)), ((pr kk).1 6, aI E 10 ((pr kk).2.2.2 2)), ((pr kk).1 2, .inr (7, [.ref ((pr kk).1 7), .ref ((pr kk).1 8), .int (nI ((pr kk).1 15))])), ((pr kk).1 7, aI E 7 ((pr kk).2.2.2 3)), ((pr kk).1 8, aI E 7 ((pr kk).2.2.2 4)), ((pr kk).1 3, .inr (2, [.ref ((pr kk).1 9), .ref ((pr kk).1 10), .ref ((pr kk).1 11), .int (nI ((pr kk).1 16))])), ((pr kk).1 9, aI E 6 ((pr kk).2.2.2 5)), ((pr kk).1 10, aI E 6 ((pr kk).2.2.2 6)), ((pr kk).1 11, aZ E 6 ((pr kk).2.2.2 7)), ((pr kk).1 4, aI E 6 ((pr kk).2.2.2 8)), (cr, aR E 10 (fun j => (ci j).map ra))] ++ rowsW E N ra pr), ¬ A q.1 := hap
    have hR0 : va_P E.1 vwCl ([(ra kk, .inr (5, [.int ((pr kk).2.1 0), .int (nI ((pr kk).1 17)), .int ((pr kk).2.1 1), .long ((pr kk).2.2.1), .ref ((pr kk).1 0), .int (nI ((pr kk).1 12)), .ref ((pr kk).1 1), .ref ((pr kk).1 2), .ref ((pr kk).1 3), .ref ((pr kk).1 4), .int (nI ((pr kk).1 13)), .int (nI ((pr kk).1 14)), .int ((pr kk).2.1 2)])), ((pr kk).1 0, aB E 16 ((pr kk).2.2.2 0)), ((pr kk).1 1, .inr (4, [.ref ((pr kk).1 5), .ref ((pr kk).1 6)])), ((pr kk).1 5, aI E 10 ((pr kk).2.2.2 1)), ((pr kk).1 6, aI E 10 ((pr kk).2.2.2 2)), ((pr kk).1 2, .inr (7, [.ref ((pr kk).1 7), .ref ((pr kk).1 8), .int (nI ((pr kk).1 15))])), ((pr kk).1 7, aI E 7 ((pr kk).2.2.2 3)), ((pr kk).1 8, aI E 7 ((pr kk).2.2.2 4)), ((pr kk).1 3, .inr (2, [.ref ((pr kk).1 9), .ref ((pr kk).1 10), .ref ((pr kk).1 11), .int (nI ((pr kk).1 16))])), ((pr kk).1 9, aI E 6 ((pr kk).2.2.2 5)), ((pr kk).1 10, aI E 6 ((pr kk).2.2.2 6)), ((pr kk).1 11, aZ E 6 ((pr kk).2.2.2 7)), ((pr kk).1 4, aI E 6 ((pr kk).2.2.2 8)), (cr, aR E 10 (fun j => (ci j).map ra))] ++ rowsW E N ra pr) s.heap := hR0
    have hltkk : kk < N := hci _ _ o4
    obtain ⟨o12kk, o13kk, o14kk, o15kk, o16kk, o17kk⟩ := hok kk (hci _ _ o4)
    refine lv_astore (lv' := [(4, .ref (ra kk)), (0, .ref c0), (1, .int (nI rl)), (2, .int x), (3, .int 7)]) hx hb dX0_search_5 hl (by decide) rfl (fun ls hl => ?_)
    refine lv_aload hx hb dX0_search_7 (lv_at hl 0 rfl) ?_
    refine lv_ifnull hx hb dX0_search_9 ?_
    refine lv_iload_n hx hb dX0_search_12 rfl (lv_at hl 4 rfl) ?_
    refine lv_bipush (v := 10) hx hb dX0_search_13 (by decide) ?_
    refine lv_icmp_lt (tgt := 20) hx hb dX0_search_15 (by decide) (fun c5 => ?_) (fun c5 => absurd (by decide) c5)
    refine lv_aload_n hx hb dX0_search_20 rfl (lv_at hl 1 rfl) ?_
    refine lv_dup hx hb dX0_search_21 rfl ?_
    refine va_get (D := E.1) (ci := 1) (v := .int sea) (C := RX0) (T := TX0) (N := 3) hx hb hts hiX0 hown hev.1 hP 0 rfl rfl 2 (by decide) hf21 (fun _ h9 => h9) rfl dX0_search_22 ?_
    refine lv_iconst (v := 1) hx hb dX0_search_25 (by decide) ?_
    refine lv_iload_n hx hb dX0_search_26 rfl (lv_at hl 2 rfl) ?_
    refine lv_ishl hx hb dX0_search_27 ?_
    refine lv_ior hx hb dX0_search_28 ?_
    refine lv_topi (fun v6 ev6 => ?_)
    refine va_put (D := E.1) (ci := 1) (v := .int v6) (ty := tyX0 2) (C := RX0) (T := TX0) (N := 3) hx hb hts hiX0 tyX0 tyX0_ok nmX0 hown hev.1 hP hD hS 0 rfl rfl 2 (by decide) hf21 (fun _ h9 => h9) rfl (tyX0_ok 2 (by decide)) rfl rfl (Nat.le_of_ble_eq_true rfl) dX0_search_29 (fun H locs hP hD hS => ?_)
    have hP : va_P E.1 vwCl [(c0, .inr (1, [.ref cr, .int rev, .int v6]))] H := hP
    have hD : va_D A [(c0, .inr (1, [.ref cr, .int rev, .int v6]))] := hD
    refine lv_aload hx hb dX0_search_32 (lv_at hl 0 rfl) ?_
    refine lv_iload_n hx hb dX0_search_34 rfl (lv_at hl 3 rfl) ?_
    have hP := hP.sub (ws' := [] ++ [(c0, .inr (1, [.ref cr, .int rev, .int v6]))]) [0] rfl
    have hD := hD.sub (ws' := [] ++ [(c0, .inr (1, [.ref cr, .int rev, .int v6]))]) [0] (by decide) rfl
    refine xci (va_runV (As := [.int x]) (rest := []) ⟨hx, hb, hml, hown, hts⟩ (kX4_hasPath l E (ra kk) ((pr kk).2.1 0) (nI ((pr kk).1 17)) ((pr kk).2.1 1) ((pr kk).2.2.1) ((pr kk).1 0) ((pr kk).1 12) ((pr kk).1 1) ((pr kk).1 2) ((pr kk).1 3) ((pr kk).1 4) ((pr kk).1 13) (nI ((pr kk).1 14)) ((pr kk).2.1 2) ((pr kk).2.2.2 8) x (by first | assumption | omega) H.size) (cwV 1 hts gX0_search_X4_hasPath rfl rfl rfl (by decide +kernel) ⟨Nat.le_of_ble_eq_true rfl, Nat.le_of_ble_eq_true rfl⟩) ⟨CP.blind, (va_recv hev.1 (xro hR0 hap hS) (ci := 5) (q0 := 0) rfl rfl), (xpre hev hz hA hP hD hS hR0 hap [1, 13] rfl)⟩ rfl rfl hl.1 rfl (lv_room (Nat.le_of_ble_eq_true rfl)) dX0_search_35 ⟨Nat.le_of_ble_eq_true rfl, Nat.le_of_ble_eq_true rfl⟩) hP hD hS hA (fun r7 w8 H locs h9 hP hD hS => ?_)
    obtain ⟨rfl, rfl, h9⟩ := h9
    try dsimp only at h9
    have hP : va_P E.1 vwCl [(c0, .inr (1, [.ref cr, .int rev, .int v6]))] H := hP
    have hD : va_D A [(c0, .inr (1, [.ref cr, .int rev, .int v6]))] := hD
    refine lv_if_eq (tgt := 43) hx hb dX0_search_38 (by decide) (fun c10 => ?_) (fun c10 => ?_)
    · skip
      have kc10 := b1_0.mp c10
      refine lv_aload_n hx hb dX0_search_43 rfl (lv_at hl 1 rfl) ?_
      refine lv_aload hx hb dX0_search_44 (lv_at hl 0 rfl) ?_
      refine va_getN (D := E.1) (ci := 5) (v := .ref ((pr kk).1 3)) (C := RX4) (T := TX4) (N := 13) hx hb hts hiX4 hown hev.1 (xro hR0 hap hS) 0 rfl rfl 8 (by decide) (xNF16 hev.2.1) (fun _ h9 => h9) rfl dX0_search_46 ?_
      refine lv_iload_n hx hb dX0_search_49 rfl (lv_at hl 3 rfl) ?_
      refine lv_iload_n hx hb dX0_search_50 rfl (lv_at hl 4 rfl) ?_
      have hP := hP.sub (ws' := [(c0, .inr (1, [.ref cr, .int rev, .int v6]))] ++ []) [0] rfl
      have hD := hD.sub (ws' := [(c0, .inr (1, [.ref cr, .int rev, .int v6]))] ++ []) [0] (by decide) rfl
      refine xci (va_runV (As := [.ref ((pr kk).1 3), .int x, .int 7]) (rest := []) ⟨hx, hb, hml, hown, hts⟩ (kX0_follow7 l E c0 cr rev v6 ci N ra pr kk x (by first | assumption | omega) (by first | assumption | omega) (by first | assumption | omega) (by first | assumption | omega) H.size) (cwV 3 hts gX0_search_X0_followDelegations rfl rfl rfl (by decide +kernel) ⟨Nat.le_of_ble_eq_true rfl, Nat.le_of_ble_eq_true rfl⟩) ⟨CP.blind, (va_recv hev.1 hP.left (ci := 1) (q0 := 0) rfl rfl), (xpreT (X := rowsW E N ra pr) hev hz hA hP hD hS hR0 hap [13] rfl (fun q9 h9 => List.mem_append_right _ h9))⟩ rfl rfl hl.1 rfl (lv_room (Nat.le_of_ble_eq_true rfl)) dX0_search_51 ⟨Nat.le_of_ble_eq_true rfl, Nat.le_of_ble_eq_true rfl⟩) hP hD hS hA (fun r11 w12 H locs h13 hP hD hS => ?_)
      obtain ⟨sea214, rfl, rfl, h13⟩ := h13
      try dsimp only at h13
      have hP : va_P E.1 vwCl [(c0, .inr (1, [.ref cr, .int rev, .int sea214]))] H := hP
      have hD : va_D A [(c0, .inr (1, [.ref cr, .int rev, .int sea214]))] := hD
      refine xri hx hb hr hlocks hP hD hS ⟨sea214, rfl, ?_, ?_⟩ dX0_search_54
      · rw [ev6]
        exact (congrArg Prod.fst (srF_go (m := sea) 2 o4 kc10)).symm
      · rw [ev6] at h13
        exact h13.trans (congrArg Prod.snd (srF_go (m := sea) 2 o4 kc10)).symm
    · skip
      have kc10 := b1_n.mp c10
      refine lv_iload_n hx hb dX0_search_41 rfl (lv_at hl 2 rfl) ?_
      refine xri hx hb hr hlocks hP hD hS ⟨v6, rfl, ?_, ?_⟩ dX0_search_42
      · exact (congrArg Prod.fst (srF_hit (m := sea) 2 o4 kc10)).symm
      · rw [ev6]
        exact (congrArg Prod.snd (srF_hit (m := sea) 2 o4 kc10)).symm

abbrev pX0_follow6 (E : xE) (c0 : Nat) (cr : Nat) (rev : Int32) (sea : Int32) (ci : Nat → Option Nat) (N : Nat) (ra : Nat → Nat) (pr : Nat → RowP) (k : Nat) (x : Int32) (r : Int32) (w : va_W) : Prop := ∃ (sea2 : Int32), w = [(c0, .inr (1, [.ref cr, .int rev, .int sea2]))] ∧ r = (folF (srF ci pr x 3) (pr k) x ((pr k).1 16) 0 sea).1 ∧ (sea2 = (folF (srF ci pr x 3) (pr k) x ((pr k).1 16) 0 sea).2)
set_option maxHeartbeats 4000000 in
set_option maxRecDepth 100000 in
theorem kX0_follow6 (l : Launch) (E : xE) (c0 : Nat) (cr : Nat) (rev : Int32) (sea : Int32) (ci : Nat → Option Nat) (N : Nat) (ra : Nat → Nat) (pr : Nat → RowP) (k : Nat) (x : Int32) (hk : k < N) (hok : ∀ i, i < N → rOk (pr i)) (hci : ∀ j i, ci j = some i → i < N) (hto : ∀ k, k < N → ∀ i, i < (pr k).1 16 → isN ((pr k).2.2.2 6 i) 10) : KT l yX0_followDelegations wsX0_followDelegations 9 221 0 0 E [(c0, .inr (1, [.ref cr, .int rev, .int sea]))] ([(cr, aR E 10 (fun j => (ci j).map ra))] ++ rowsW E N ra pr) [.ref c0, .ref ((pr k).1 3), .int x, .int 6] (QI E (pX0_follow6 E c0 cr rev sea ci N ra pr k x)) := by
  refine KT.start (cc := cX0_followDelegations) (maxL := 7) (ret := (some .int)) (by decide) rfl (Nat.le_of_ble_eq_true rfl) ?_
  intro p e s m below meth c A H hx hb hr hlocks hml hts hown hin hP hR0 hD hap hev hz hA hS ls hl
  have hl : lv_has ls 7 [(0, .ref c0), (1, .ref ((pr k).1 3)), (2, .int x), (3, .int 6)] := hl
  have hiX1 : ∀ w ∈ wsX10, w ∈ wsX0_followDelegations := by decide +kernel
  have hiniX7 := hts (.initialized RX7) (by decide +kernel)
  have hstX7_fits := hts (.static yX7_fits) (by decide +kernel)
  have hi9 := hk
  have hap := xmoreA (L := [(ra k, .inr (5, [.int ((pr k).2.1 0), .int (nI ((pr k).1 17)), .int ((pr k).2.1 1), .long ((pr k).2.2.1), .ref ((pr k).1 0), .int (nI ((pr k).1 12)), .ref ((pr k).1 1), .ref ((pr k).1 2), .ref ((pr k).1 3), .ref ((pr k).1 4), .int (nI ((pr k).1 13)), .int (nI ((pr k).1 14)), .int ((pr k).2.1 2)])), ((pr k).1 0, aB E 16 ((pr k).2.2.2 0)), ((pr k).1 1, .inr (4, [.ref ((pr k).1 5), .ref ((pr k).1 6)])), ((pr k).1 5, aI E 10 ((pr k).2.2.2 1)), ((pr k).1 6, aI E 10 ((pr k).2.2.2 2)), ((pr k).1 2, .inr (7, [.ref ((pr k).1 7), .ref ((pr k).1 8), .int (nI ((pr k).1 15))])), ((pr k).1 7, aI E 7 ((pr k).2.2.2 3)), ((pr k).1 8, aI E 7 ((pr k).2.2.2 4)), ((pr k).1 3, .inr (2, [.ref ((pr k).1 9), .ref ((pr k).1 10), .ref ((pr k).1 11), .int (nI ((pr k).1 16))])), ((pr k).1 9, aI E 6 ((pr k).2.2.2 5)), ((pr k).1 10, aI E 6 ((pr k).2.2.2 6)), ((pr k).1 11, aZ E 6 ((pr k).2.2.2 7)), ((pr k).1 4, aI E 6 ((pr k).2.2.2 8))]) hap (fun q9 h9 => List.mem_append_right _ (rowsW_mem (E := E) (ra := ra) (pr := pr) (hk) q9 h9))
  have hR0 := xmore (L := [(ra k, .inr (5, [.int ((pr k).2.1 0), .int (nI ((pr k).1 17)), .int ((pr k).2.1 1), .long ((pr k).2.2.1), .ref ((pr k).1 0), .int (nI ((pr k).1 12)), .ref ((pr k).1 1), .ref ((pr k).1 2), .ref ((pr k).1 3), .ref ((pr k).1 4), .int (nI ((pr k).1 13)), .int (nI ((pr k).1 14)), .int ((pr k).2.1 2)])), ((pr k).1 0, aB E 16 ((pr k).2.2.2 0)), ((pr k).1 1, .inr (4, [.ref ((pr k).1 5), .ref ((pr k).1 6)])), ((pr k).1 5, aI E 10 ((pr k).2.2.2 1)), ((pr k).1 6, aI E 10 ((pr k).2.2.2 2)), ((pr k).1 2, .inr (7, [.ref ((pr k).1 7), .ref ((pr k).1 8), .int (nI ((pr k).1 15))])), ((pr k).1 7, aI E 7 ((pr k).2.2.2 3)), ((pr k).1 8, aI E 7 ((pr k).2.2.2 4)), ((pr k).1 3, .inr (2, [.ref ((pr k).1 9), .ref ((pr k).1 10), .ref ((pr k).1 11), .int (nI ((pr k).1 16))])), ((pr k).1 9, aI E 6 ((pr k).2.2.2 5)), ((pr k).1 10, aI E 6 ((pr k).2.2.2 6)), ((pr k).1 11, aZ E 6 ((pr k).2.2.2 7)), ((pr k).1 4, aI E 6 ((pr k).2.2.2 8))]) hR0 (fun q9 h9 => List.mem_append_right _ (rowsW_mem (E := E) (ra := ra) (pr := pr) (hk) q9 h9))
  have hap : ∀ q ∈ ([(ra k, .inr (5, [.int ((pr k).2.1 0), .int (nI ((pr k).1 17)), .int ((pr k).2.1 1), .long ((pr k).2.2.1), .ref ((pr k).1 0), .int (nI ((pr k).1 12)), .ref ((pr k).1 1), .ref ((pr k).1 2), .ref ((pr k).1 3), .ref ((pr k).1 4), .int (nI ((pr k).1 13)), .int (nI ((pr k).1 14)), .int ((pr k).2.1 2)])), ((pr k).1 0, aB E 16 ((pr k).2.2.2 0)), ((pr k).1 1, .inr (4, [.ref ((pr k).1 5), .ref ((pr k).1 6)])), ((pr k).1 5, aI E 10 ((pr k).2.2.2 1)), ((pr k).1 6, aI E 10 ((pr k).2.2.2 2)), ((pr k).1 2, .inr (7, [.ref ((pr k).1 7), .ref ((pr k).1 8), .int (nI ((pr k).1 15))])), ((pr k).1 7, aI E 7 ((pr k).2.2.2 3)), ((pr k).1 8, aI E 7 ((pr k).2.2.2 4)), ((pr k).1 3, .inr (2, [.ref ((pr k).1 9), .ref ((pr k).1 10), .ref ((pr k).1 11), .int (nI ((pr k).1 16))])), ((pr k).1 9, aI E 6 ((pr k).2.2.2 5)), ((pr k).1 10, aI E 6 ((pr k).2.2.2 6)), ((pr k).1 11, aZ E 6 ((pr k).2.2.2 7)), ((pr k).1 4, aI E 6 ((pr k).2.2.2 8)), (cr, aR E 10 (fun j => (ci j).map ra))] ++ rowsW E N ra pr), ¬ A q.1 := hap
  have hR0 : va_P E.1 vwCl ([(ra k, .inr (5, [.int ((pr k).2.1 0), .int (nI ((pr k).1 17)), .int ((pr k).2.1 1), .long ((pr k).2.2.1), .ref ((pr k).1 0), .int (nI ((pr k).1 12)), .ref ((pr k).1 1), .ref ((pr k).1 2), .ref ((pr k).1 3), .ref ((pr k).1 4), .int (nI ((pr k).1 13)), .int (nI ((pr k).1 14)), .int ((pr k).2.1 2)])), ((pr k).1 0, aB E 16 ((pr k).2.2.2 0)), ((pr k).1 1, .inr (4, [.ref ((pr k).1 5), .ref ((pr k).1 6)])), ((pr k).1 5, aI E 10 ((pr k).2.2.2 1)), ((pr k).1 6, aI E 10 ((pr k).2.2.2 2)), ((pr k).1 2, .inr (7, [.ref ((pr k).1 7), .ref ((pr k).1 8), .int (nI ((pr k).1 15))])), ((pr k).1 7, aI E 7 ((pr k).2.2.2 3)), ((pr k).1 8, aI E 7 ((pr k).2.2.2 4)), ((pr k).1 3, .inr (2, [.ref ((pr k).1 9), .ref ((pr k).1 10), .ref ((pr k).1 11), .int (nI ((pr k).1 16))])), ((pr k).1 9, aI E 6 ((pr k).2.2.2 5)), ((pr k).1 10, aI E 6 ((pr k).2.2.2 6)), ((pr k).1 11, aZ E 6 ((pr k).2.2.2 7)), ((pr k).1 4, aI E 6 ((pr k).2.2.2 8)), (cr, aR E 10 (fun j => (ci j).map ra))] ++ rowsW E N ra pr) s.heap := hR0
  have hltk : k < N := hk
  obtain ⟨o12k, o13k, o14k, o15k, o16k, o17k⟩ := hok k (hk)
  refine lv_iconst (v := 0) hx hb dX0_followDelegations_0 (by decide) ?_
  refine lv_istore (lv' := [(4, .int 0), (0, .ref c0), (1, .ref ((pr k).1 3)), (2, .int x), (3, .int 6)]) hx hb dX0_followDelegations_1 hl (by decide) rfl (fun ls hl => ?_)
  have loop3 : ∀ (fz3 : Nat) (i : Nat) (m9 : Int32), (i ≤ (pr k).1 16) → (folF (srF ci pr x 3) (pr k) x ((pr k).1 16 - i) i m9 = folF (srF ci pr x 3) (pr k) x ((pr k).1 16) 0 sea) → ((pr k).1 16 - i < fz3) → ∀ (H : Heap) (locs : List Loc), va_P E.1 vwCl [(c0, .inr (1, [.ref cr, .int rev, .int m9]))] H → va_D A [(c0, .inr (1, [.ref cr, .int rev, .int m9]))] → va_S A s.heap H locs → ∀ ls : Array Slot, lv_has ls 7 [(4, .int (nI i)), (0, .ref c0), (1, .ref ((pr k).1 3)), (2, .int x), (3, .int 6)] → W p l e ({ frames := 9, cells := 0, slots := 0, locals := 221 } : Room) s m ([.ref c0, .ref ((pr k).1 3), .int x, .int 6] : List Value).toArray below meth c H locs 0 0 (MQ below (QI E (pX0_follow6 E c0 cr rev sea ci N ra pr k x) A) ([.ref c0, .ref ((pr k).1 3), .int x, .int 6] : List Value).toArray s 0 0 A) (F0 m 3 ls []) := by
    intro fz3
    induction fz3 with
    | zero =>
      intro i m9 hi he hfuel
      exact absurd hfuel (by omega)
    | succ fz3 ih3 =>
      intro i m9 hi he hfuel H locs hP hD hS ls hl
      refine lv_iload hx hb dX0_followDelegations_3 (lv_at hl 0 rfl) ?_
      refine lv_aload_n hx hb dX0_followDelegations_5 rfl (lv_at hl 2 rfl) ?_
      refine va_getN (D := E.1) (ci := 2) (v := .int (nI ((pr k).1 16))) (C := RX1) (T := TX1) (N := 4) hx hb hts hiX1 hown hev.1 (xro hR0 hap hS) 8 rfl rfl 3 (by decide) (xNF4 hev.2.1) (fun _ h9 => h9) rfl dX0_followDelegations_6 ?_
      refine lv_icmp_ge (tgt := 91) hx hb dX0_followDelegations_9 (by decide) (fun c1 => ?_) (fun c1 => ?_)
      · skip
        have kc1 : ((pr k).1 16) ≤ i := (nI_leI (a := ((pr k).1 16)) (b := i) (by omega) (by omega)).mp c1
        refine lv_iconst (v := (-1)) hx hb dX0_followDelegations_91 (by decide) ?_
        refine xri hx hb hr hlocks hP hD hS ⟨m9, rfl, ?_, ?_⟩ dX0_followDelegations_92
        · exact congrArg Prod.fst ((fo_end (by omega)).symm.trans he)
        · exact congrArg Prod.snd ((fo_end (by omega)).symm.trans he)
      · skip
        have kc1 : ¬ ((pr k).1 16) ≤ i := fun h9 => c1 ((nI_leI (a := ((pr k).1 16)) (b := i) (by omega) (by omega)).mpr h9)
        refine lv_aload_n hx hb dX0_followDelegations_12 rfl (lv_at hl 2 rfl) ?_
        refine va_getN (D := E.1) (ci := 2) (v := .ref ((pr k).1 9)) (C := RX1) (T := TX1) (N := 4) hx hb hts hiX1 hown hev.1 (xro hR0 hap hS) 8 rfl rfl 0 (by decide) (xNF1 hev.2.1) (fun _ h9 => h9) rfl dX0_followDelegations_13 ?_
        refine lv_iload hx hb dX0_followDelegations_16 (lv_at hl 0 rfl) ?_
        refine xiald (k := (i)) hx hb hev.1 (xro hR0 hap hS) 9 1 rfl rfl (by omega) (by decide) dX0_followDelegations_18 ?_
        refine lv_iload_n hx hb dX0_followDelegations_19 rfl (lv_at hl 3 rfl) ?_
        have hP := hP.sub (ws' := [] ++ [(c0, .inr (1, [.ref cr, .int rev, .int m9]))]) [0] rfl
        have hD := hD.sub (ws' := [] ++ [(c0, .inr (1, [.ref cr, .int rev, .int m9]))]) [0] (by decide) rfl
        refine xci (va_runSN (As := [.int (((pr k).2.2.2 5) i), .int x]) (rest := []) ⟨hx, hb, hml, hown, hts⟩ (kX7_fits l E (((pr k).2.2.2 5) i) x  H.size) ⟨va_cnB 2 hts gX0_followDelegations_X7_fits_n108 rfl rfl rfl (xNM6 hev.2.1) hiniX7 (by decide +kernel) ⟨Nat.le_of_ble_eq_true rfl, Nat.le_of_ble_eq_true rfl⟩, hstX7_fits, trivial⟩ ⟨CP.blind, (xpre hev hz hA hP hD hS hR0 hap [] rfl)⟩ rfl rfl hl.1 rfl (lv_room (Nat.le_of_ble_eq_true rfl)) dX0_followDelegations_20 ⟨Nat.le_of_ble_eq_true rfl, Nat.le_of_ble_eq_true rfl⟩) hP hD hS hA (fun r2 w3 H locs h4 hP hD hS => ?_)
        obtain ⟨rfl, rfl, h4⟩ := h4
        try dsimp only at h4
        have hP : va_P E.1 vwCl [(c0, .inr (1, [.ref cr, .int rev, .int m9]))] H := hP
        have hD : va_D A [(c0, .inr (1, [.ref cr, .int rev, .int m9]))] := hD
        refine lv_if_ne (tgt := 29) hx hb dX0_followDelegations_23 (by decide) (fun c5 => ?_) (fun c5 => ?_)
        · skip
          have kc5 := b1_n.mp c5
          refine lv_aload_n hx hb dX0_followDelegations_29 rfl (lv_at hl 2 rfl) ?_
          refine va_getN (D := E.1) (ci := 2) (v := .ref ((pr k).1 10)) (C := RX1) (T := TX1) (N := 4) hx hb hts hiX1 hown hev.1 (xro hR0 hap hS) 8 rfl rfl 1 (by decide) (xNF2 hev.2.1) (fun _ h9 => h9) rfl dX0_followDelegations_30 ?_
          refine lv_iload hx hb dX0_followDelegations_33 (lv_at hl 0 rfl) ?_
          refine xiald (k := (i)) hx hb hev.1 (xro hR0 hap hS) 10 1 rfl rfl (by omega) (by decide) dX0_followDelegations_35 ?_
          obtain ⟨to6, hto6, eto⟩ := hto k hk i (by omega)
          refine xtop (y := nI to6) (eto) ?_
          refine lv_istore (lv' := [(5, .int (nI to6)), (4, .int (nI i)), (0, .ref c0), (1, .ref ((pr k).1 3)), (2, .int x), (3, .int 6)]) hx hb dX0_followDelegations_36 hl (by decide) rfl (fun ls hl => ?_)
          refine lv_aload_n hx hb dX0_followDelegations_38 rfl (lv_at hl 2 rfl) ?_
          refine lv_iload hx hb dX0_followDelegations_39 (lv_at hl 0 rfl) ?_
          have hP := hP.sub (ws' := [] ++ [(c0, .inr (1, [.ref cr, .int rev, .int m9]))]) [0] rfl
          have hD := hD.sub (ws' := [] ++ [(c0, .inr (1, [.ref cr, .int rev, .int m9]))]) [0] (by decide) rfl
          refine xci (va_runV (As := [.int (nI to6)]) (rest := []) ⟨hx, hb, hml, hown, hts⟩ (kX0_isSearched l E c0 cr rev m9 (nI to6)  H.size) (cwV 1 hts gX0_followDelegations_X0_isSearched rfl rfl rfl (by decide +kernel) ⟨Nat.le_of_ble_eq_true rfl, Nat.le_of_ble_eq_true rfl⟩) ⟨CP.blind, (va_recv hev.1 hP (ci := 1) (q0 := 0) rfl rfl), (xpre hev hz hA hP hD hS hR0 hap [0] rfl)⟩ rfl rfl hl.1 rfl (lv_room (Nat.le_of_ble_eq_true rfl)) dX0_followDelegations_41 ⟨Nat.le_of_ble_eq_true rfl, Nat.le_of_ble_eq_true rfl⟩) hP hD hS hA (fun r7 w8 H locs h9 hP hD hS => ?_)
          obtain ⟨rfl, rfl, h9⟩ := h9
          try dsimp only at h9
          have hP : va_P E.1 vwCl [(c0, .inr (1, [.ref cr, .int rev, .int m9]))] H := hP
          have hD : va_D A [(c0, .inr (1, [.ref cr, .int rev, .int m9]))] := hD
          refine lv_if_eq (tgt := 51) hx hb dX0_followDelegations_44 (by decide) (fun c10 => ?_) (fun c10 => ?_)
          · skip
            have kc10 := b1_0.mp c10
            refine lv_aload_n hx hb dX0_followDelegations_51 rfl (lv_at hl 2 rfl) ?_
            refine lv_iload hx hb dX0_followDelegations_52 (lv_at hl 0 rfl) ?_
            refine lv_iload_n hx hb dX0_followDelegations_54 rfl (lv_at hl 4 rfl) ?_
            refine lv_iload_n hx hb dX0_followDelegations_55 rfl (lv_at hl 5 rfl) ?_
            refine lv_iconst (v := 1) hx hb dX0_followDelegations_56 (by decide) ?_
            refine lv_iadd hx hb dX0_followDelegations_57 ?_
            refine xtop (y := 7) (by decide) ?_
            have hP := hP.sub (ws' := [(c0, .inr (1, [.ref cr, .int rev, .int m9]))] ++ []) [0] rfl
            have hD := hD.sub (ws' := [(c0, .inr (1, [.ref cr, .int rev, .int m9]))] ++ []) [0] (by decide) rfl
            refine xci (va_runV (As := [.int (nI to6), .int x, .int 7]) (rest := []) ⟨hx, hb, hml, hown, hts⟩ (kX0_search7 l E c0 cr rev m9 ci N ra pr to6 x (by first | assumption | omega) (by first | assumption | omega) (by first | assumption | omega) (by first | assumption | omega) H.size) (cwV 3 hts gX0_followDelegations_X0_search rfl rfl rfl (by decide +kernel) ⟨Nat.le_of_ble_eq_true rfl, Nat.le_of_ble_eq_true rfl⟩) ⟨CP.blind, (va_recv hev.1 hP.left (ci := 1) (q0 := 0) rfl rfl), (xpreT (X := rowsW E N ra pr) hev hz hA hP hD hS hR0 hap [13] rfl (fun q9 h9 => List.mem_append_right _ h9))⟩ rfl rfl hl.1 rfl (lv_room (Nat.le_of_ble_eq_true rfl)) dX0_followDelegations_58 ⟨Nat.le_of_ble_eq_true rfl, Nat.le_of_ble_eq_true rfl⟩) hP hD hS hA (fun r11 w12 H locs h13 hP hD hS => ?_)
            obtain ⟨sea214, rfl, rfl, h13⟩ := h13
            try dsimp only at h13
            have hP : va_P E.1 vwCl [(c0, .inr (1, [.ref cr, .int rev, .int sea214]))] H := hP
            have hD : va_D A [(c0, .inr (1, [.ref cr, .int rev, .int sea214]))] := hD
            refine lv_istore (lv' := [(6, .int ((srF ci pr x 3 to6 m9).1)), (5, .int (nI to6)), (4, .int (nI i)), (0, .ref c0), (1, .ref ((pr k).1 3)), (2, .int x), (3, .int 6)]) hx hb dX0_followDelegations_61 hl (by decide) rfl (fun ls hl => ?_)
            refine lv_iload hx hb dX0_followDelegations_63 (lv_at hl 0 rfl) ?_
            refine lv_iconst (v := (-1)) hx hb dX0_followDelegations_65 (by decide) ?_
            refine lv_icmp_eq (tgt := 72) hx hb dX0_followDelegations_66 (by decide) (fun c15 => ?_) (fun c15 => ?_)
            · skip
              refine lv_aload_n hx hb dX0_followDelegations_72 rfl (lv_at hl 4 rfl) ?_
              refine va_getN (D := E.1) (ci := 2) (v := .ref ((pr k).1 11)) (C := RX1) (T := TX1) (N := 4) hx hb hts hiX1 hown hev.1 (xro hR0 hap hS) 8 rfl rfl 2 (by decide) (xNF3 hev.2.1) (fun _ h9 => h9) rfl dX0_followDelegations_73 ?_
              refine lv_iload hx hb dX0_followDelegations_76 (lv_at hl 2 rfl) ?_
              refine xzald (k := (i)) hx hb hev.1 (xro hR0 hap hS) 11 3 rfl rfl (by omega) (by decide) dX0_followDelegations_78 ?_
              refine lv_if_eq (tgt := 85) hx hb dX0_followDelegations_79 (by decide) (fun c16 => ?_) (fun c16 => ?_)
              · skip
                refine lv_iinc (v := nI (i + 1)) (lv' := [(4, .int (nI (i + 1))), (6, .int ((srF ci pr x 3 to6 m9).1)), (5, .int (nI to6)), (0, .ref c0), (1, .ref ((pr k).1 3)), (2, .int x), (3, .int 6)]) hx hb dX0_followDelegations_85 hl (k := 2) rfl ((nI_add i 1).trans (congrArg nI (by omega))) (by decide) rfl (fun ls hl => ?_)
                refine lv_goto (tgt := 3) hx hb dX0_followDelegations_88 (by decide) ?_
                exact ih3  (i + 1) sea214 (by omega) (((fo_next (a := (srF ci pr x 3 to6 m9)) (by omega) kc5 (by rw [eto]; exact nI_clamp (by omega)) (pk2_f kc10) c15 c16).trans (by rw [← h13])).symm.trans he) (by omega) _ _ hP hD hS ls (lv_sub hl [0, 3, 4, 5, 6] rfl)
              · skip
                refine lv_bipush (v := (-2)) hx hb dX0_followDelegations_82 (by decide) ?_
                refine xri hx hb hr hlocks hP hD hS ⟨sea214, rfl, ?_, ?_⟩ dX0_followDelegations_84
                · exact congrArg Prod.fst ((fo_over (a := (srF ci pr x 3 to6 m9)) (by omega) kc5 (by rw [eto]; exact nI_clamp (by omega)) (pk2_f kc10) c15 c16).symm.trans he)
                · have q9 := congrArg Prod.snd ((fo_over (a := (srF ci pr x 3 to6 m9)) (by omega) kc5 (by rw [eto]; exact nI_clamp (by omega)) (pk2_f kc10) c15 c16).symm.trans he)
                  exact h13.trans q9
            · skip
              refine lv_iload hx hb dX0_followDelegations_69 (lv_at hl 0 rfl) ?_
              refine xri hx hb hr hlocks hP hD hS ⟨sea214, rfl, ?_, ?_⟩ dX0_followDelegations_71
              · exact (congrArg Prod.fst ((fo_hit (a := (srF ci pr x 3 to6 m9)) (by omega) kc5 (by rw [eto]; exact nI_clamp (by omega)) (pk2_f kc10) c15).symm.trans he))
              · exact h13.trans (congrArg Prod.snd ((fo_hit (a := (srF ci pr x 3 to6 m9)) (by omega) kc5 (by rw [eto]; exact nI_clamp (by omega)) (pk2_f kc10) c15).symm.trans he))
          · skip
            have kc10 := b1_n.mp c10
            refine lv_iconst (v := (-1)) hx hb dX0_followDelegations_47 (by decide) ?_
            refine lv_goto (tgt := 61) hx hb dX0_followDelegations_48 (by decide) ?_
            refine lv_istore (lv' := [(6, .int (-1)), (5, .int (nI to6)), (4, .int (nI i)), (0, .ref c0), (1, .ref ((pr k).1 3)), (2, .int x), (3, .int 6)]) hx hb dX0_followDelegations_61 hl (by decide) rfl (fun ls hl => ?_)
            refine lv_iload hx hb dX0_followDelegations_63 (lv_at hl 0 rfl) ?_
            refine lv_iconst (v := (-1)) hx hb dX0_followDelegations_65 (by decide) ?_
            refine lv_icmp_eq (tgt := 72) hx hb dX0_followDelegations_66 (by decide) (fun c17 => ?_) (fun c17 => absurd (by decide) c17)
            refine lv_aload_n hx hb dX0_followDelegations_72 rfl (lv_at hl 4 rfl) ?_
            refine va_getN (D := E.1) (ci := 2) (v := .ref ((pr k).1 11)) (C := RX1) (T := TX1) (N := 4) hx hb hts hiX1 hown hev.1 (xro hR0 hap hS) 8 rfl rfl 2 (by decide) (xNF3 hev.2.1) (fun _ h9 => h9) rfl dX0_followDelegations_73 ?_
            refine lv_iload hx hb dX0_followDelegations_76 (lv_at hl 2 rfl) ?_
            refine xzald (k := (i)) hx hb hev.1 (xro hR0 hap hS) 11 3 rfl rfl (by omega) (by decide) dX0_followDelegations_78 ?_
            refine lv_if_eq (tgt := 85) hx hb dX0_followDelegations_79 (by decide) (fun c18 => ?_) (fun c18 => ?_)
            · skip
              refine lv_iinc (v := nI (i + 1)) (lv' := [(4, .int (nI (i + 1))), (6, .int (-1)), (5, .int (nI to6)), (0, .ref c0), (1, .ref ((pr k).1 3)), (2, .int x), (3, .int 6)]) hx hb dX0_followDelegations_85 hl (k := 2) rfl ((nI_add i 1).trans (congrArg nI (by omega))) (by decide) rfl (fun ls hl => ?_)
              refine lv_goto (tgt := 3) hx hb dX0_followDelegations_88 (by decide) ?_
              exact ih3  (i + 1) m9 (by omega) ((fo_next (a := (-1, m9)) (by omega) kc5 (by rw [eto]; exact nI_clamp (by omega)) (pk2_t kc10) rfl c18).symm.trans he) (by omega) _ _ hP hD hS ls (lv_sub hl [0, 3, 4, 5, 6] rfl)
            · skip
              refine lv_bipush (v := (-2)) hx hb dX0_followDelegations_82 (by decide) ?_
              refine xri hx hb hr hlocks hP hD hS ⟨m9, rfl, ?_, ?_⟩ dX0_followDelegations_84
              · exact congrArg Prod.fst ((fo_over (a := (-1, m9)) (by omega) kc5 (by rw [eto]; exact nI_clamp (by omega)) (pk2_t kc10) rfl c18).symm.trans he)
              · exact congrArg Prod.snd ((fo_over (a := (-1, m9)) (by omega) kc5 (by rw [eto]; exact nI_clamp (by omega)) (pk2_t kc10) rfl c18).symm.trans he)
        · skip
          have kc5 := b1_0.mp c5
          refine lv_goto (tgt := 85) hx hb dX0_followDelegations_26 (by decide) ?_
          refine lv_iinc (v := nI (i + 1)) (lv' := [(4, .int (nI (i + 1))), (0, .ref c0), (1, .ref ((pr k).1 3)), (2, .int x), (3, .int 6)]) hx hb dX0_followDelegations_85 hl (k := 0) rfl ((nI_add i 1).trans (congrArg nI (by omega))) (by decide) rfl (fun ls hl => ?_)
          refine lv_goto (tgt := 3) hx hb dX0_followDelegations_88 (by decide) ?_
          exact ih3  (i + 1) m9 (by omega) ((fo_skip (by omega) kc5).symm.trans he) (by omega) _ _ hP hD hS ls (lv_sub hl [0, 1, 2, 3, 4] rfl)
  exact loop3 ((pr k).1 16 + 1) 0 sea (by omega) (rfl) (by omega) _ _ hP hD hS ls (lv_sub hl [0, 1, 2, 3, 4] rfl)

abbrev pX0_search6 (E : xE) (c0 : Nat) (cr : Nat) (rev : Int32) (sea : Int32) (ci : Nat → Option Nat) (N : Nat) (ra : Nat → Nat) (pr : Nat → RowP) (rl : Nat) (x : Int32) (r : Int32) (w : va_W) : Prop := ∃ (sea2 : Int32), w = [(c0, .inr (1, [.ref cr, .int rev, .int sea2]))] ∧ r = (srF ci pr x 4 rl sea).1 ∧ (sea2 = (srF ci pr x 4 rl sea).2)
set_option maxHeartbeats 4000000 in
set_option maxRecDepth 100000 in
theorem kX0_search6 (l : Launch) (E : xE) (c0 : Nat) (cr : Nat) (rev : Int32) (sea : Int32) (ci : Nat → Option Nat) (N : Nat) (ra : Nat → Nat) (pr : Nat → RowP) (rl : Nat) (x : Int32) (hrl : rl < 10) (hok : ∀ i, i < N → rOk (pr i)) (hci : ∀ j i, ci j = some i → i < N) (hto : ∀ k, k < N → ∀ i, i < (pr k).1 16 → isN ((pr k).2.2.2 6 i) 10) : KT l yX0_search wsX0_search 10 247 0 0 E [(c0, .inr (1, [.ref cr, .int rev, .int sea]))] ([(cr, aR E 10 (fun j => (ci j).map ra))] ++ rowsW E N ra pr) [.ref c0, .int (nI rl), .int x, .int 6] (QI E (pX0_search6 E c0 cr rev sea ci N ra pr rl x)) := by
  refine KT.start (cc := cX0_search) (maxL := 5) (ret := (some .int)) (by decide) rfl (Nat.le_of_ble_eq_true rfl) ?_
  intro p e s m below meth c A H hx hb hr hlocks hml hts hown hin hP hR0 hD hap hev hz hA hS ls hl
  have hl : lv_has ls 5 [(0, .ref c0), (1, .int (nI rl)), (2, .int x), (3, .int 6)] := hl
  have hiX0 : ∀ w ∈ wsX00, w ∈ wsX0_search := by decide +kernel
  have hiX4 : ∀ w ∈ wsX40, w ∈ wsX0_search := by decide +kernel
  have hf21 := hts (.fieldLink RX0 21 "SignQuorum$Client" "searchedRoles" "I") (by decide +kernel)
  refine lv_aload_n hx hb dX0_search_0 rfl (lv_at hl 0 rfl) ?_
  refine lv_iload_n hx hb dX0_search_1 rfl (lv_at hl 1 rfl) ?_
  have hP := hP.sub (ws' := [] ++ [(c0, .inr (1, [.ref cr, .int rev, .int sea]))]) [0] rfl
  have hD := hD.sub (ws' := [] ++ [(c0, .inr (1, [.ref cr, .int rev, .int sea]))]) [0] (by decide) rfl
  refine xcr (va_runV (As := [.int (nI rl)]) (rest := []) ⟨hx, hb, hml, hown, hts⟩ (kX0_currentOfJ l E c0 cr rev sea ci ra rl (by first | assumption | omega) H.size) (cwV 1 hts gX0_search_X0_currentOf rfl rfl rfl (by decide +kernel) ⟨Nat.le_of_ble_eq_true rfl, Nat.le_of_ble_eq_true rfl⟩) ⟨CP.blind, (va_recv hev.1 hP (ci := 1) (q0 := 0) rfl rfl), (xpre hev hz hA hP hD hS hR0 hap [0, 1] rfl)⟩ rfl rfl hl.1 rfl (lv_room (Nat.le_of_ble_eq_true rfl)) dX0_search_2 ⟨Nat.le_of_ble_eq_true rfl, Nat.le_of_ble_eq_true rfl⟩) hP hD hS hA (fun r1 w2 H locs h3 hP hD hS => ?_)
  obtain ⟨rfl, rfl, h3⟩ := h3
  try dsimp only at h3
  have hP : va_P E.1 vwCl [(c0, .inr (1, [.ref cr, .int rev, .int sea]))] H := hP
  have hD : va_D A [(c0, .inr (1, [.ref cr, .int rev, .int sea]))] := hD
  cases o4 : ci rl with
  | none =>
    refine lv_astoreN (lv' := [(4, .null), (0, .ref c0), (1, .int (nI rl)), (2, .int x), (3, .int 6)]) hx hb dX0_search_5 hl (by decide) rfl (fun ls hl => ?_)
    refine lv_aloadN hx hb dX0_search_7 (lv_at hl 0 rfl) ?_
    refine lv_ifnullN (tgt := 18) hx hb dX0_search_9 (by decide) ?_
    refine lv_iconst (v := (-1)) hx hb dX0_search_18 (by decide) ?_
    refine xri hx hb hr hlocks hP hD hS ⟨sea, rfl, ?_, ?_⟩ dX0_search_19
    · exact (congrArg Prod.fst (srF_none o4 4)).symm
    · exact (congrArg Prod.snd (srF_none o4 4)).symm
  | some kk =>
    have hap := xmoreA (L := [(ra kk, .inr (5, [.int ((pr kk).2.1 0), .int (nI ((pr kk).1 17)), .int ((pr kk).2.1 1), .long ((pr kk).2.2.1), .ref ((pr kk).1 0), .int (nI ((pr kk).1 12)), .ref ((pr kk).1 1), .ref ((pr kk).1 2), .ref ((pr kk).1 3), .ref ((pr kk).1 4), .int (nI ((pr kk).1 13)), .int (nI ((pr kk).1 14)), .int ((pr kk).2.1 2)])), ((pr kk).1 0, aB E 16 ((pr kk).2.2.2 0)), ((pr kk).1 1, .inr (4, [.ref ((pr kk).1 5), .ref ((pr kk).1 6)])), ((pr kk).1 5, aI E 10 ((pr kk).2.2.2 1)), ((pr kk).1 6, aI E 10 ((pr kk).2.2.2 2)), ((pr kk).1 2, .inr (7, [.ref ((pr kk).1 7), .ref ((pr kk).1 8), .int (nI ((pr kk).1 15))])), ((pr kk).1 7, aI E 7 ((pr kk).2.2.2 3)), ((pr kk).1 8, aI E 7 ((pr kk).2.2.2 4)), ((pr kk).1 3, .inr (2, [.ref ((pr kk).1 9), .ref ((pr kk).1 10), .ref ((pr kk).1 11), .int (nI ((pr kk).1 16))])), ((pr kk).1 9, aI E 6 ((pr kk).2.2.2 5)), ((pr kk).1 10, aI E 6 ((pr kk).2.2.2 6)), ((pr kk).1 11, aZ E 6 ((pr kk).2.2.2 7)), ((pr kk).1 4, aI E 6 ((pr kk).2.2.2 8))]) hap (fun q9 h9 => List.mem_append_right _ (rowsW_mem (E := E) (ra := ra) (pr := pr) (hci _ _ o4) q9 h9))
    have hR0 := xmore (L := [(ra kk, .inr (5, [.int ((pr kk).2.1 0), .int (nI ((pr kk).1 17)), .int ((pr kk).2.1 1), .long ((pr kk).2.2.1), .ref ((pr kk).1 0), .int (nI ((pr kk).1 12)), .ref ((pr kk).1 1), .ref ((pr kk).1 2), .ref ((pr kk).1 3), .ref ((pr kk).1 4), .int (nI ((pr kk).1 13)), .int (nI ((pr kk).1 14)), .int ((pr kk).2.1 2)])), ((pr kk).1 0, aB E 16 ((pr kk).2.2.2 0)), ((pr kk).1 1, .inr (4, [.ref ((pr kk).1 5), .ref ((pr kk).1 6)])), ((pr kk).1 5, aI E 10 ((pr kk).2.2.2 1)), ((pr kk).1 6, aI E 10 ((pr kk).2.2.2 2)), ((pr kk).1 2, .inr (7, [.ref ((pr kk).1 7), .ref ((pr kk).1 8), .int (nI ((pr kk).1 15))])), ((pr kk).1 7, aI E 7 ((pr kk).2.2.2 3)), ((pr kk).1 8, aI E 7 ((pr kk).2.2.2 4)), ((pr kk).1 3, .inr (2, [.ref ((pr kk).1 9), .ref ((pr kk).1 10), .ref ((pr kk).1 11), .int (nI ((pr kk).1 16))])), ((pr kk).1 9, aI E 6 ((pr kk).2.2.2 5)), ((pr kk).1 10, aI E 6 ((pr kk).2.2.2 6)), ((pr kk).1 11, aZ E 6 ((pr kk).2.2.2 7)), ((pr kk).1 4, aI E 6 ((pr kk).2.2.2 8))]) hR0 (fun q9 h9 => List.mem_append_right _ (rowsW_mem (E := E) (ra := ra) (pr := pr) (hci _ _ o4) q9 h9))
    have hap : ∀ q ∈ ([(ra kk, .inr (5, [.int ((pr kk).2.1 0), .int (nI ((pr kk).1 17)), .int ((pr kk).2.1 1), .long ((pr kk).2.2.1), .ref ((pr kk).1 0), .int (nI ((pr kk).1 12)), .ref ((pr kk).1 1), .ref ((pr kk).1 2), .ref ((pr kk).1 3), .ref ((pr kk).1 4), .int (nI ((pr kk).1 13)), .int (nI ((pr kk).1 14)), .int ((pr kk).2.1 2)])), ((pr kk).1 0, aB E 16 ((pr kk).2.2.2 0)), ((pr kk).1 1, .inr (4, [.ref ((pr kk).1 5), .ref ((pr kk).1 6)])), ((pr kk).1 5, aI E 10 ((pr kk).2.2.2 1)), ((pr kk).1 6, aI E 10 ((pr kk).2.2.2 2)), ((pr kk).1 2, .inr (7, [.ref ((pr kk).1 7), .ref ((pr kk).1 8), .int (nI ((pr kk).1 15))])), ((pr kk).1 7, aI E 7 ((pr kk).2.2.2 3)), ((pr kk).1 8, aI E 7 ((pr kk).2.2.2 4)), ((pr kk).1 3, .inr (2, [.ref ((pr kk).1 9), .ref ((pr kk).1 10), .ref ((pr kk).1 11), .int (nI ((pr kk).1 16))])), ((pr kk).1 9, aI E 6 ((pr kk).2.2.2 5)), ((pr kk).1 10, aI E 6 ((pr kk).2.2.2 6)), ((pr kk).1 11, aZ E 6 ((pr kk).2.2.2 7)), ((pr kk).1 4, aI E 6 ((pr kk).2.2.2 8)), (cr, aR E 10 (fun j => (ci j).map ra))] ++ rowsW E N ra pr), ¬ A q.1 := hap
    have hR0 : va_P E.1 vwCl ([(ra kk, .inr (5, [.int ((pr kk).2.1 0), .int (nI ((pr kk).1 17)), .int ((pr kk).2.1 1), .long ((pr kk).2.2.1), .ref ((pr kk).1 0), .int (nI ((pr kk).1 12)), .ref ((pr kk).1 1), .ref ((pr kk).1 2), .ref ((pr kk).1 3), .ref ((pr kk).1 4), .int (nI ((pr kk).1 13)), .int (nI ((pr kk).1 14)), .int ((pr kk).2.1 2)])), ((pr kk).1 0, aB E 16 ((pr kk).2.2.2 0)), ((pr kk).1 1, .inr (4, [.ref ((pr kk).1 5), .ref ((pr kk).1 6)])), ((pr kk).1 5, aI E 10 ((pr kk).2.2.2 1)), ((pr kk).1 6, aI E 10 ((pr kk).2.2.2 2)), ((pr kk).1 2, .inr (7, [.ref ((pr kk).1 7), .ref ((pr kk).1 8), .int (nI ((pr kk).1 15))])), ((pr kk).1 7, aI E 7 ((pr kk).2.2.2 3)), ((pr kk).1 8, aI E 7 ((pr kk).2.2.2 4)), ((pr kk).1 3, .inr (2, [.ref ((pr kk).1 9), .ref ((pr kk).1 10), .ref ((pr kk).1 11), .int (nI ((pr kk).1 16))])), ((pr kk).1 9, aI E 6 ((pr kk).2.2.2 5)), ((pr kk).1 10, aI E 6 ((pr kk).2.2.2 6)), ((pr kk).1 11, aZ E 6 ((pr kk).2.2.2 7)), ((pr kk).1 4, aI E 6 ((pr kk).2.2.2 8)), (cr, aR E 10 (fun j => (ci j).map ra))] ++ rowsW E N ra pr) s.heap := hR0
    have hltkk : kk < N := hci _ _ o4
    obtain ⟨o12kk, o13kk, o14kk, o15kk, o16kk, o17kk⟩ := hok kk (hci _ _ o4)
    refine lv_astore (lv' := [(4, .ref (ra kk)), (0, .ref c0), (1, .int (nI rl)), (2, .int x), (3, .int 6)]) hx hb dX0_search_5 hl (by decide) rfl (fun ls hl => ?_)
    refine lv_aload hx hb dX0_search_7 (lv_at hl 0 rfl) ?_
    refine lv_ifnull hx hb dX0_search_9 ?_
    refine lv_iload_n hx hb dX0_search_12 rfl (lv_at hl 4 rfl) ?_
    refine lv_bipush (v := 10) hx hb dX0_search_13 (by decide) ?_
    refine lv_icmp_lt (tgt := 20) hx hb dX0_search_15 (by decide) (fun c5 => ?_) (fun c5 => absurd (by decide) c5)
    refine lv_aload_n hx hb dX0_search_20 rfl (lv_at hl 1 rfl) ?_
    refine lv_dup hx hb dX0_search_21 rfl ?_
    refine va_get (D := E.1) (ci := 1) (v := .int sea) (C := RX0) (T := TX0) (N := 3) hx hb hts hiX0 hown hev.1 hP 0 rfl rfl 2 (by decide) hf21 (fun _ h9 => h9) rfl dX0_search_22 ?_
    refine lv_iconst (v := 1) hx hb dX0_search_25 (by decide) ?_
    refine lv_iload_n hx hb dX0_search_26 rfl (lv_at hl 2 rfl) ?_
    refine lv_ishl hx hb dX0_search_27 ?_
    refine lv_ior hx hb dX0_search_28 ?_
    refine lv_topi (fun v6 ev6 => ?_)
    refine va_put (D := E.1) (ci := 1) (v := .int v6) (ty := tyX0 2) (C := RX0) (T := TX0) (N := 3) hx hb hts hiX0 tyX0 tyX0_ok nmX0 hown hev.1 hP hD hS 0 rfl rfl 2 (by decide) hf21 (fun _ h9 => h9) rfl (tyX0_ok 2 (by decide)) rfl rfl (Nat.le_of_ble_eq_true rfl) dX0_search_29 (fun H locs hP hD hS => ?_)
    have hP : va_P E.1 vwCl [(c0, .inr (1, [.ref cr, .int rev, .int v6]))] H := hP
    have hD : va_D A [(c0, .inr (1, [.ref cr, .int rev, .int v6]))] := hD
    refine lv_aload hx hb dX0_search_32 (lv_at hl 0 rfl) ?_
    refine lv_iload_n hx hb dX0_search_34 rfl (lv_at hl 3 rfl) ?_
    have hP := hP.sub (ws' := [] ++ [(c0, .inr (1, [.ref cr, .int rev, .int v6]))]) [0] rfl
    have hD := hD.sub (ws' := [] ++ [(c0, .inr (1, [.ref cr, .int rev, .int v6]))]) [0] (by decide) rfl
    refine xci (va_runV (As := [.int x]) (rest := []) ⟨hx, hb, hml, hown, hts⟩ (kX4_hasPath l E (ra kk) ((pr kk).2.1 0) (nI ((pr kk).1 17)) ((pr kk).2.1 1) ((pr kk).2.2.1) ((pr kk).1 0) ((pr kk).1 12) ((pr kk).1 1) ((pr kk).1 2) ((pr kk).1 3) ((pr kk).1 4) ((pr kk).1 13) (nI ((pr kk).1 14)) ((pr kk).2.1 2) ((pr kk).2.2.2 8) x (by first | assumption | omega) H.size) (cwV 1 hts gX0_search_X4_hasPath rfl rfl rfl (by decide +kernel) ⟨Nat.le_of_ble_eq_true rfl, Nat.le_of_ble_eq_true rfl⟩) ⟨CP.blind, (va_recv hev.1 (xro hR0 hap hS) (ci := 5) (q0 := 0) rfl rfl), (xpre hev hz hA hP hD hS hR0 hap [1, 13] rfl)⟩ rfl rfl hl.1 rfl (lv_room (Nat.le_of_ble_eq_true rfl)) dX0_search_35 ⟨Nat.le_of_ble_eq_true rfl, Nat.le_of_ble_eq_true rfl⟩) hP hD hS hA (fun r7 w8 H locs h9 hP hD hS => ?_)
    obtain ⟨rfl, rfl, h9⟩ := h9
    try dsimp only at h9
    have hP : va_P E.1 vwCl [(c0, .inr (1, [.ref cr, .int rev, .int v6]))] H := hP
    have hD : va_D A [(c0, .inr (1, [.ref cr, .int rev, .int v6]))] := hD
    refine lv_if_eq (tgt := 43) hx hb dX0_search_38 (by decide) (fun c10 => ?_) (fun c10 => ?_)
    · skip
      have kc10 := b1_0.mp c10
      refine lv_aload_n hx hb dX0_search_43 rfl (lv_at hl 1 rfl) ?_
      refine lv_aload hx hb dX0_search_44 (lv_at hl 0 rfl) ?_
      refine va_getN (D := E.1) (ci := 5) (v := .ref ((pr kk).1 3)) (C := RX4) (T := TX4) (N := 13) hx hb hts hiX4 hown hev.1 (xro hR0 hap hS) 0 rfl rfl 8 (by decide) (xNF16 hev.2.1) (fun _ h9 => h9) rfl dX0_search_46 ?_
      refine lv_iload_n hx hb dX0_search_49 rfl (lv_at hl 3 rfl) ?_
      refine lv_iload_n hx hb dX0_search_50 rfl (lv_at hl 4 rfl) ?_
      have hP := hP.sub (ws' := [(c0, .inr (1, [.ref cr, .int rev, .int v6]))] ++ []) [0] rfl
      have hD := hD.sub (ws' := [(c0, .inr (1, [.ref cr, .int rev, .int v6]))] ++ []) [0] (by decide) rfl
      refine xci (va_runV (As := [.ref ((pr kk).1 3), .int x, .int 6]) (rest := []) ⟨hx, hb, hml, hown, hts⟩ (kX0_follow6 l E c0 cr rev v6 ci N ra pr kk x (by first | assumption | omega) (by first | assumption | omega) (by first | assumption | omega) (by first | assumption | omega) H.size) (cwV 3 hts gX0_search_X0_followDelegations rfl rfl rfl (by decide +kernel) ⟨Nat.le_of_ble_eq_true rfl, Nat.le_of_ble_eq_true rfl⟩) ⟨CP.blind, (va_recv hev.1 hP.left (ci := 1) (q0 := 0) rfl rfl), (xpreT (X := rowsW E N ra pr) hev hz hA hP hD hS hR0 hap [13] rfl (fun q9 h9 => List.mem_append_right _ h9))⟩ rfl rfl hl.1 rfl (lv_room (Nat.le_of_ble_eq_true rfl)) dX0_search_51 ⟨Nat.le_of_ble_eq_true rfl, Nat.le_of_ble_eq_true rfl⟩) hP hD hS hA (fun r11 w12 H locs h13 hP hD hS => ?_)
      obtain ⟨sea214, rfl, rfl, h13⟩ := h13
      try dsimp only at h13
      have hP : va_P E.1 vwCl [(c0, .inr (1, [.ref cr, .int rev, .int sea214]))] H := hP
      have hD : va_D A [(c0, .inr (1, [.ref cr, .int rev, .int sea214]))] := hD
      refine xri hx hb hr hlocks hP hD hS ⟨sea214, rfl, ?_, ?_⟩ dX0_search_54
      · rw [ev6]
        exact (congrArg Prod.fst (srF_go (m := sea) 3 o4 kc10)).symm
      · rw [ev6] at h13
        exact h13.trans (congrArg Prod.snd (srF_go (m := sea) 3 o4 kc10)).symm
    · skip
      have kc10 := b1_n.mp c10
      refine lv_iload_n hx hb dX0_search_41 rfl (lv_at hl 2 rfl) ?_
      refine xri hx hb hr hlocks hP hD hS ⟨v6, rfl, ?_, ?_⟩ dX0_search_42
      · exact (congrArg Prod.fst (srF_hit (m := sea) 3 o4 kc10)).symm
      · rw [ev6]
        exact (congrArg Prod.snd (srF_hit (m := sea) 3 o4 kc10)).symm

abbrev pX0_follow5 (E : xE) (c0 : Nat) (cr : Nat) (rev : Int32) (sea : Int32) (ci : Nat → Option Nat) (N : Nat) (ra : Nat → Nat) (pr : Nat → RowP) (k : Nat) (x : Int32) (r : Int32) (w : va_W) : Prop := ∃ (sea2 : Int32), w = [(c0, .inr (1, [.ref cr, .int rev, .int sea2]))] ∧ r = (folF (srF ci pr x 4) (pr k) x ((pr k).1 16) 0 sea).1 ∧ (sea2 = (folF (srF ci pr x 4) (pr k) x ((pr k).1 16) 0 sea).2)
set_option maxHeartbeats 4000000 in
set_option maxRecDepth 100000 in
theorem kX0_follow5 (l : Launch) (E : xE) (c0 : Nat) (cr : Nat) (rev : Int32) (sea : Int32) (ci : Nat → Option Nat) (N : Nat) (ra : Nat → Nat) (pr : Nat → RowP) (k : Nat) (x : Int32) (hk : k < N) (hok : ∀ i, i < N → rOk (pr i)) (hci : ∀ j i, ci j = some i → i < N) (hto : ∀ k, k < N → ∀ i, i < (pr k).1 16 → isN ((pr k).2.2.2 6 i) 10) : KT l yX0_followDelegations wsX0_followDelegations 11 271 0 0 E [(c0, .inr (1, [.ref cr, .int rev, .int sea]))] ([(cr, aR E 10 (fun j => (ci j).map ra))] ++ rowsW E N ra pr) [.ref c0, .ref ((pr k).1 3), .int x, .int 5] (QI E (pX0_follow5 E c0 cr rev sea ci N ra pr k x)) := by
  refine KT.start (cc := cX0_followDelegations) (maxL := 7) (ret := (some .int)) (by decide) rfl (Nat.le_of_ble_eq_true rfl) ?_
  intro p e s m below meth c A H hx hb hr hlocks hml hts hown hin hP hR0 hD hap hev hz hA hS ls hl
  have hl : lv_has ls 7 [(0, .ref c0), (1, .ref ((pr k).1 3)), (2, .int x), (3, .int 5)] := hl
  have hiX1 : ∀ w ∈ wsX10, w ∈ wsX0_followDelegations := by decide +kernel
  have hiniX7 := hts (.initialized RX7) (by decide +kernel)
  have hstX7_fits := hts (.static yX7_fits) (by decide +kernel)
  have hi9 := hk
  have hap := xmoreA (L := [(ra k, .inr (5, [.int ((pr k).2.1 0), .int (nI ((pr k).1 17)), .int ((pr k).2.1 1), .long ((pr k).2.2.1), .ref ((pr k).1 0), .int (nI ((pr k).1 12)), .ref ((pr k).1 1), .ref ((pr k).1 2), .ref ((pr k).1 3), .ref ((pr k).1 4), .int (nI ((pr k).1 13)), .int (nI ((pr k).1 14)), .int ((pr k).2.1 2)])), ((pr k).1 0, aB E 16 ((pr k).2.2.2 0)), ((pr k).1 1, .inr (4, [.ref ((pr k).1 5), .ref ((pr k).1 6)])), ((pr k).1 5, aI E 10 ((pr k).2.2.2 1)), ((pr k).1 6, aI E 10 ((pr k).2.2.2 2)), ((pr k).1 2, .inr (7, [.ref ((pr k).1 7), .ref ((pr k).1 8), .int (nI ((pr k).1 15))])), ((pr k).1 7, aI E 7 ((pr k).2.2.2 3)), ((pr k).1 8, aI E 7 ((pr k).2.2.2 4)), ((pr k).1 3, .inr (2, [.ref ((pr k).1 9), .ref ((pr k).1 10), .ref ((pr k).1 11), .int (nI ((pr k).1 16))])), ((pr k).1 9, aI E 6 ((pr k).2.2.2 5)), ((pr k).1 10, aI E 6 ((pr k).2.2.2 6)), ((pr k).1 11, aZ E 6 ((pr k).2.2.2 7)), ((pr k).1 4, aI E 6 ((pr k).2.2.2 8))]) hap (fun q9 h9 => List.mem_append_right _ (rowsW_mem (E := E) (ra := ra) (pr := pr) (hk) q9 h9))
  have hR0 := xmore (L := [(ra k, .inr (5, [.int ((pr k).2.1 0), .int (nI ((pr k).1 17)), .int ((pr k).2.1 1), .long ((pr k).2.2.1), .ref ((pr k).1 0), .int (nI ((pr k).1 12)), .ref ((pr k).1 1), .ref ((pr k).1 2), .ref ((pr k).1 3), .ref ((pr k).1 4), .int (nI ((pr k).1 13)), .int (nI ((pr k).1 14)), .int ((pr k).2.1 2)])), ((pr k).1 0, aB E 16 ((pr k).2.2.2 0)), ((pr k).1 1, .inr (4, [.ref ((pr k).1 5), .ref ((pr k).1 6)])), ((pr k).1 5, aI E 10 ((pr k).2.2.2 1)), ((pr k).1 6, aI E 10 ((pr k).2.2.2 2)), ((pr k).1 2, .inr (7, [.ref ((pr k).1 7), .ref ((pr k).1 8), .int (nI ((pr k).1 15))])), ((pr k).1 7, aI E 7 ((pr k).2.2.2 3)), ((pr k).1 8, aI E 7 ((pr k).2.2.2 4)), ((pr k).1 3, .inr (2, [.ref ((pr k).1 9), .ref ((pr k).1 10), .ref ((pr k).1 11), .int (nI ((pr k).1 16))])), ((pr k).1 9, aI E 6 ((pr k).2.2.2 5)), ((pr k).1 10, aI E 6 ((pr k).2.2.2 6)), ((pr k).1 11, aZ E 6 ((pr k).2.2.2 7)), ((pr k).1 4, aI E 6 ((pr k).2.2.2 8))]) hR0 (fun q9 h9 => List.mem_append_right _ (rowsW_mem (E := E) (ra := ra) (pr := pr) (hk) q9 h9))
  have hap : ∀ q ∈ ([(ra k, .inr (5, [.int ((pr k).2.1 0), .int (nI ((pr k).1 17)), .int ((pr k).2.1 1), .long ((pr k).2.2.1), .ref ((pr k).1 0), .int (nI ((pr k).1 12)), .ref ((pr k).1 1), .ref ((pr k).1 2), .ref ((pr k).1 3), .ref ((pr k).1 4), .int (nI ((pr k).1 13)), .int (nI ((pr k).1 14)), .int ((pr k).2.1 2)])), ((pr k).1 0, aB E 16 ((pr k).2.2.2 0)), ((pr k).1 1, .inr (4, [.ref ((pr k).1 5), .ref ((pr k).1 6)])), ((pr k).1 5, aI E 10 ((pr k).2.2.2 1)), ((pr k).1 6, aI E 10 ((pr k).2.2.2 2)), ((pr k).1 2, .inr (7, [.ref ((pr k).1 7), .ref ((pr k).1 8), .int (nI ((pr k).1 15))])), ((pr k).1 7, aI E 7 ((pr k).2.2.2 3)), ((pr k).1 8, aI E 7 ((pr k).2.2.2 4)), ((pr k).1 3, .inr (2, [.ref ((pr k).1 9), .ref ((pr k).1 10), .ref ((pr k).1 11), .int (nI ((pr k).1 16))])), ((pr k).1 9, aI E 6 ((pr k).2.2.2 5)), ((pr k).1 10, aI E 6 ((pr k).2.2.2 6)), ((pr k).1 11, aZ E 6 ((pr k).2.2.2 7)), ((pr k).1 4, aI E 6 ((pr k).2.2.2 8)), (cr, aR E 10 (fun j => (ci j).map ra))] ++ rowsW E N ra pr), ¬ A q.1 := hap
  have hR0 : va_P E.1 vwCl ([(ra k, .inr (5, [.int ((pr k).2.1 0), .int (nI ((pr k).1 17)), .int ((pr k).2.1 1), .long ((pr k).2.2.1), .ref ((pr k).1 0), .int (nI ((pr k).1 12)), .ref ((pr k).1 1), .ref ((pr k).1 2), .ref ((pr k).1 3), .ref ((pr k).1 4), .int (nI ((pr k).1 13)), .int (nI ((pr k).1 14)), .int ((pr k).2.1 2)])), ((pr k).1 0, aB E 16 ((pr k).2.2.2 0)), ((pr k).1 1, .inr (4, [.ref ((pr k).1 5), .ref ((pr k).1 6)])), ((pr k).1 5, aI E 10 ((pr k).2.2.2 1)), ((pr k).1 6, aI E 10 ((pr k).2.2.2 2)), ((pr k).1 2, .inr (7, [.ref ((pr k).1 7), .ref ((pr k).1 8), .int (nI ((pr k).1 15))])), ((pr k).1 7, aI E 7 ((pr k).2.2.2 3)), ((pr k).1 8, aI E 7 ((pr k).2.2.2 4)), ((pr k).1 3, .inr (2, [.ref ((pr k).1 9), .ref ((pr k).1 10), .ref ((pr k).1 11), .int (nI ((pr k).1 16))])), ((pr k).1 9, aI E 6 ((pr k).2.2.2 5)), ((pr k).1 10, aI E 6 ((pr k).2.2.2 6)), ((pr k).1 11, aZ E 6 ((pr k).2.2.2 7)), ((pr k).1 4, aI E 6 ((pr k).2.2.2 8)), (cr, aR E 10 (fun j => (ci j).map ra))] ++ rowsW E N ra pr) s.heap := hR0
  have hltk : k < N := hk
  obtain ⟨o12k, o13k, o14k, o15k, o16k, o17k⟩ := hok k (hk)
  refine lv_iconst (v := 0) hx hb dX0_followDelegations_0 (by decide) ?_
  refine lv_istore (lv' := [(4, .int 0), (0, .ref c0), (1, .ref ((pr k).1 3)), (2, .int x), (3, .int 5)]) hx hb dX0_followDelegations_1 hl (by decide) rfl (fun ls hl => ?_)
  have loop3 : ∀ (fz3 : Nat) (i : Nat) (m9 : Int32), (i ≤ (pr k).1 16) → (folF (srF ci pr x 4) (pr k) x ((pr k).1 16 - i) i m9 = folF (srF ci pr x 4) (pr k) x ((pr k).1 16) 0 sea) → ((pr k).1 16 - i < fz3) → ∀ (H : Heap) (locs : List Loc), va_P E.1 vwCl [(c0, .inr (1, [.ref cr, .int rev, .int m9]))] H → va_D A [(c0, .inr (1, [.ref cr, .int rev, .int m9]))] → va_S A s.heap H locs → ∀ ls : Array Slot, lv_has ls 7 [(4, .int (nI i)), (0, .ref c0), (1, .ref ((pr k).1 3)), (2, .int x), (3, .int 5)] → W p l e ({ frames := 11, cells := 0, slots := 0, locals := 271 } : Room) s m ([.ref c0, .ref ((pr k).1 3), .int x, .int 5] : List Value).toArray below meth c H locs 0 0 (MQ below (QI E (pX0_follow5 E c0 cr rev sea ci N ra pr k x) A) ([.ref c0, .ref ((pr k).1 3), .int x, .int 5] : List Value).toArray s 0 0 A) (F0 m 3 ls []) := by
    intro fz3
    induction fz3 with
    | zero =>
      intro i m9 hi he hfuel
      exact absurd hfuel (by omega)
    | succ fz3 ih3 =>
      intro i m9 hi he hfuel H locs hP hD hS ls hl
      refine lv_iload hx hb dX0_followDelegations_3 (lv_at hl 0 rfl) ?_
      refine lv_aload_n hx hb dX0_followDelegations_5 rfl (lv_at hl 2 rfl) ?_
      refine va_getN (D := E.1) (ci := 2) (v := .int (nI ((pr k).1 16))) (C := RX1) (T := TX1) (N := 4) hx hb hts hiX1 hown hev.1 (xro hR0 hap hS) 8 rfl rfl 3 (by decide) (xNF4 hev.2.1) (fun _ h9 => h9) rfl dX0_followDelegations_6 ?_
      refine lv_icmp_ge (tgt := 91) hx hb dX0_followDelegations_9 (by decide) (fun c1 => ?_) (fun c1 => ?_)
      · skip
        have kc1 : ((pr k).1 16) ≤ i := (nI_leI (a := ((pr k).1 16)) (b := i) (by omega) (by omega)).mp c1
        refine lv_iconst (v := (-1)) hx hb dX0_followDelegations_91 (by decide) ?_
        refine xri hx hb hr hlocks hP hD hS ⟨m9, rfl, ?_, ?_⟩ dX0_followDelegations_92
        · exact congrArg Prod.fst ((fo_end (by omega)).symm.trans he)
        · exact congrArg Prod.snd ((fo_end (by omega)).symm.trans he)
      · skip
        have kc1 : ¬ ((pr k).1 16) ≤ i := fun h9 => c1 ((nI_leI (a := ((pr k).1 16)) (b := i) (by omega) (by omega)).mpr h9)
        refine lv_aload_n hx hb dX0_followDelegations_12 rfl (lv_at hl 2 rfl) ?_
        refine va_getN (D := E.1) (ci := 2) (v := .ref ((pr k).1 9)) (C := RX1) (T := TX1) (N := 4) hx hb hts hiX1 hown hev.1 (xro hR0 hap hS) 8 rfl rfl 0 (by decide) (xNF1 hev.2.1) (fun _ h9 => h9) rfl dX0_followDelegations_13 ?_
        refine lv_iload hx hb dX0_followDelegations_16 (lv_at hl 0 rfl) ?_
        refine xiald (k := (i)) hx hb hev.1 (xro hR0 hap hS) 9 1 rfl rfl (by omega) (by decide) dX0_followDelegations_18 ?_
        refine lv_iload_n hx hb dX0_followDelegations_19 rfl (lv_at hl 3 rfl) ?_
        have hP := hP.sub (ws' := [] ++ [(c0, .inr (1, [.ref cr, .int rev, .int m9]))]) [0] rfl
        have hD := hD.sub (ws' := [] ++ [(c0, .inr (1, [.ref cr, .int rev, .int m9]))]) [0] (by decide) rfl
        refine xci (va_runSN (As := [.int (((pr k).2.2.2 5) i), .int x]) (rest := []) ⟨hx, hb, hml, hown, hts⟩ (kX7_fits l E (((pr k).2.2.2 5) i) x  H.size) ⟨va_cnB 2 hts gX0_followDelegations_X7_fits_n108 rfl rfl rfl (xNM6 hev.2.1) hiniX7 (by decide +kernel) ⟨Nat.le_of_ble_eq_true rfl, Nat.le_of_ble_eq_true rfl⟩, hstX7_fits, trivial⟩ ⟨CP.blind, (xpre hev hz hA hP hD hS hR0 hap [] rfl)⟩ rfl rfl hl.1 rfl (lv_room (Nat.le_of_ble_eq_true rfl)) dX0_followDelegations_20 ⟨Nat.le_of_ble_eq_true rfl, Nat.le_of_ble_eq_true rfl⟩) hP hD hS hA (fun r2 w3 H locs h4 hP hD hS => ?_)
        obtain ⟨rfl, rfl, h4⟩ := h4
        try dsimp only at h4
        have hP : va_P E.1 vwCl [(c0, .inr (1, [.ref cr, .int rev, .int m9]))] H := hP
        have hD : va_D A [(c0, .inr (1, [.ref cr, .int rev, .int m9]))] := hD
        refine lv_if_ne (tgt := 29) hx hb dX0_followDelegations_23 (by decide) (fun c5 => ?_) (fun c5 => ?_)
        · skip
          have kc5 := b1_n.mp c5
          refine lv_aload_n hx hb dX0_followDelegations_29 rfl (lv_at hl 2 rfl) ?_
          refine va_getN (D := E.1) (ci := 2) (v := .ref ((pr k).1 10)) (C := RX1) (T := TX1) (N := 4) hx hb hts hiX1 hown hev.1 (xro hR0 hap hS) 8 rfl rfl 1 (by decide) (xNF2 hev.2.1) (fun _ h9 => h9) rfl dX0_followDelegations_30 ?_
          refine lv_iload hx hb dX0_followDelegations_33 (lv_at hl 0 rfl) ?_
          refine xiald (k := (i)) hx hb hev.1 (xro hR0 hap hS) 10 1 rfl rfl (by omega) (by decide) dX0_followDelegations_35 ?_
          obtain ⟨to6, hto6, eto⟩ := hto k hk i (by omega)
          refine xtop (y := nI to6) (eto) ?_
          refine lv_istore (lv' := [(5, .int (nI to6)), (4, .int (nI i)), (0, .ref c0), (1, .ref ((pr k).1 3)), (2, .int x), (3, .int 5)]) hx hb dX0_followDelegations_36 hl (by decide) rfl (fun ls hl => ?_)
          refine lv_aload_n hx hb dX0_followDelegations_38 rfl (lv_at hl 2 rfl) ?_
          refine lv_iload hx hb dX0_followDelegations_39 (lv_at hl 0 rfl) ?_
          have hP := hP.sub (ws' := [] ++ [(c0, .inr (1, [.ref cr, .int rev, .int m9]))]) [0] rfl
          have hD := hD.sub (ws' := [] ++ [(c0, .inr (1, [.ref cr, .int rev, .int m9]))]) [0] (by decide) rfl
          refine xci (va_runV (As := [.int (nI to6)]) (rest := []) ⟨hx, hb, hml, hown, hts⟩ (kX0_isSearched l E c0 cr rev m9 (nI to6)  H.size) (cwV 1 hts gX0_followDelegations_X0_isSearched rfl rfl rfl (by decide +kernel) ⟨Nat.le_of_ble_eq_true rfl, Nat.le_of_ble_eq_true rfl⟩) ⟨CP.blind, (va_recv hev.1 hP (ci := 1) (q0 := 0) rfl rfl), (xpre hev hz hA hP hD hS hR0 hap [0] rfl)⟩ rfl rfl hl.1 rfl (lv_room (Nat.le_of_ble_eq_true rfl)) dX0_followDelegations_41 ⟨Nat.le_of_ble_eq_true rfl, Nat.le_of_ble_eq_true rfl⟩) hP hD hS hA (fun r7 w8 H locs h9 hP hD hS => ?_)
          obtain ⟨rfl, rfl, h9⟩ := h9
          try dsimp only at h9
          have hP : va_P E.1 vwCl [(c0, .inr (1, [.ref cr, .int rev, .int m9]))] H := hP
          have hD : va_D A [(c0, .inr (1, [.ref cr, .int rev, .int m9]))] := hD
          refine lv_if_eq (tgt := 51) hx hb dX0_followDelegations_44 (by decide) (fun c10 => ?_) (fun c10 => ?_)
          · skip
            have kc10 := b1_0.mp c10
            refine lv_aload_n hx hb dX0_followDelegations_51 rfl (lv_at hl 2 rfl) ?_
            refine lv_iload hx hb dX0_followDelegations_52 (lv_at hl 0 rfl) ?_
            refine lv_iload_n hx hb dX0_followDelegations_54 rfl (lv_at hl 4 rfl) ?_
            refine lv_iload_n hx hb dX0_followDelegations_55 rfl (lv_at hl 5 rfl) ?_
            refine lv_iconst (v := 1) hx hb dX0_followDelegations_56 (by decide) ?_
            refine lv_iadd hx hb dX0_followDelegations_57 ?_
            refine xtop (y := 6) (by decide) ?_
            have hP := hP.sub (ws' := [(c0, .inr (1, [.ref cr, .int rev, .int m9]))] ++ []) [0] rfl
            have hD := hD.sub (ws' := [(c0, .inr (1, [.ref cr, .int rev, .int m9]))] ++ []) [0] (by decide) rfl
            refine xci (va_runV (As := [.int (nI to6), .int x, .int 6]) (rest := []) ⟨hx, hb, hml, hown, hts⟩ (kX0_search6 l E c0 cr rev m9 ci N ra pr to6 x (by first | assumption | omega) (by first | assumption | omega) (by first | assumption | omega) (by first | assumption | omega) H.size) (cwV 3 hts gX0_followDelegations_X0_search rfl rfl rfl (by decide +kernel) ⟨Nat.le_of_ble_eq_true rfl, Nat.le_of_ble_eq_true rfl⟩) ⟨CP.blind, (va_recv hev.1 hP.left (ci := 1) (q0 := 0) rfl rfl), (xpreT (X := rowsW E N ra pr) hev hz hA hP hD hS hR0 hap [13] rfl (fun q9 h9 => List.mem_append_right _ h9))⟩ rfl rfl hl.1 rfl (lv_room (Nat.le_of_ble_eq_true rfl)) dX0_followDelegations_58 ⟨Nat.le_of_ble_eq_true rfl, Nat.le_of_ble_eq_true rfl⟩) hP hD hS hA (fun r11 w12 H locs h13 hP hD hS => ?_)
            obtain ⟨sea214, rfl, rfl, h13⟩ := h13
            try dsimp only at h13
            have hP : va_P E.1 vwCl [(c0, .inr (1, [.ref cr, .int rev, .int sea214]))] H := hP
            have hD : va_D A [(c0, .inr (1, [.ref cr, .int rev, .int sea214]))] := hD
            refine lv_istore (lv' := [(6, .int ((srF ci pr x 4 to6 m9).1)), (5, .int (nI to6)), (4, .int (nI i)), (0, .ref c0), (1, .ref ((pr k).1 3)), (2, .int x), (3, .int 5)]) hx hb dX0_followDelegations_61 hl (by decide) rfl (fun ls hl => ?_)
            refine lv_iload hx hb dX0_followDelegations_63 (lv_at hl 0 rfl) ?_
            refine lv_iconst (v := (-1)) hx hb dX0_followDelegations_65 (by decide) ?_
            refine lv_icmp_eq (tgt := 72) hx hb dX0_followDelegations_66 (by decide) (fun c15 => ?_) (fun c15 => ?_)
            · skip
              refine lv_aload_n hx hb dX0_followDelegations_72 rfl (lv_at hl 4 rfl) ?_
              refine va_getN (D := E.1) (ci := 2) (v := .ref ((pr k).1 11)) (C := RX1) (T := TX1) (N := 4) hx hb hts hiX1 hown hev.1 (xro hR0 hap hS) 8 rfl rfl 2 (by decide) (xNF3 hev.2.1) (fun _ h9 => h9) rfl dX0_followDelegations_73 ?_
              refine lv_iload hx hb dX0_followDelegations_76 (lv_at hl 2 rfl) ?_
              refine xzald (k := (i)) hx hb hev.1 (xro hR0 hap hS) 11 3 rfl rfl (by omega) (by decide) dX0_followDelegations_78 ?_
              refine lv_if_eq (tgt := 85) hx hb dX0_followDelegations_79 (by decide) (fun c16 => ?_) (fun c16 => ?_)
              · skip
                refine lv_iinc (v := nI (i + 1)) (lv' := [(4, .int (nI (i + 1))), (6, .int ((srF ci pr x 4 to6 m9).1)), (5, .int (nI to6)), (0, .ref c0), (1, .ref ((pr k).1 3)), (2, .int x), (3, .int 5)]) hx hb dX0_followDelegations_85 hl (k := 2) rfl ((nI_add i 1).trans (congrArg nI (by omega))) (by decide) rfl (fun ls hl => ?_)
                refine lv_goto (tgt := 3) hx hb dX0_followDelegations_88 (by decide) ?_
                exact ih3  (i + 1) sea214 (by omega) (((fo_next (a := (srF ci pr x 4 to6 m9)) (by omega) kc5 (by rw [eto]; exact nI_clamp (by omega)) (pk2_f kc10) c15 c16).trans (by rw [← h13])).symm.trans he) (by omega) _ _ hP hD hS ls (lv_sub hl [0, 3, 4, 5, 6] rfl)
              · skip
                refine lv_bipush (v := (-2)) hx hb dX0_followDelegations_82 (by decide) ?_
                refine xri hx hb hr hlocks hP hD hS ⟨sea214, rfl, ?_, ?_⟩ dX0_followDelegations_84
                · exact congrArg Prod.fst ((fo_over (a := (srF ci pr x 4 to6 m9)) (by omega) kc5 (by rw [eto]; exact nI_clamp (by omega)) (pk2_f kc10) c15 c16).symm.trans he)
                · have q9 := congrArg Prod.snd ((fo_over (a := (srF ci pr x 4 to6 m9)) (by omega) kc5 (by rw [eto]; exact nI_clamp (by omega)) (pk2_f kc10) c15 c16).symm.trans he)
                  exact h13.trans q9
            · skip
              refine lv_iload hx hb dX0_followDelegations_69 (lv_at hl 0 rfl) ?_
              refine xri hx hb hr hlocks hP hD hS ⟨sea214, rfl, ?_, ?_⟩ dX0_followDelegations_71
              · exact (congrArg Prod.fst ((fo_hit (a := (srF ci pr x 4 to6 m9)) (by omega) kc5 (by rw [eto]; exact nI_clamp (by omega)) (pk2_f kc10) c15).symm.trans he))
              · exact h13.trans (congrArg Prod.snd ((fo_hit (a := (srF ci pr x 4 to6 m9)) (by omega) kc5 (by rw [eto]; exact nI_clamp (by omega)) (pk2_f kc10) c15).symm.trans he))
          · skip
            have kc10 := b1_n.mp c10
            refine lv_iconst (v := (-1)) hx hb dX0_followDelegations_47 (by decide) ?_
            refine lv_goto (tgt := 61) hx hb dX0_followDelegations_48 (by decide) ?_
            refine lv_istore (lv' := [(6, .int (-1)), (5, .int (nI to6)), (4, .int (nI i)), (0, .ref c0), (1, .ref ((pr k).1 3)), (2, .int x), (3, .int 5)]) hx hb dX0_followDelegations_61 hl (by decide) rfl (fun ls hl => ?_)
            refine lv_iload hx hb dX0_followDelegations_63 (lv_at hl 0 rfl) ?_
            refine lv_iconst (v := (-1)) hx hb dX0_followDelegations_65 (by decide) ?_
            refine lv_icmp_eq (tgt := 72) hx hb dX0_followDelegations_66 (by decide) (fun c17 => ?_) (fun c17 => absurd (by decide) c17)
            refine lv_aload_n hx hb dX0_followDelegations_72 rfl (lv_at hl 4 rfl) ?_
            refine va_getN (D := E.1) (ci := 2) (v := .ref ((pr k).1 11)) (C := RX1) (T := TX1) (N := 4) hx hb hts hiX1 hown hev.1 (xro hR0 hap hS) 8 rfl rfl 2 (by decide) (xNF3 hev.2.1) (fun _ h9 => h9) rfl dX0_followDelegations_73 ?_
            refine lv_iload hx hb dX0_followDelegations_76 (lv_at hl 2 rfl) ?_
            refine xzald (k := (i)) hx hb hev.1 (xro hR0 hap hS) 11 3 rfl rfl (by omega) (by decide) dX0_followDelegations_78 ?_
            refine lv_if_eq (tgt := 85) hx hb dX0_followDelegations_79 (by decide) (fun c18 => ?_) (fun c18 => ?_)
            · skip
              refine lv_iinc (v := nI (i + 1)) (lv' := [(4, .int (nI (i + 1))), (6, .int (-1)), (5, .int (nI to6)), (0, .ref c0), (1, .ref ((pr k).1 3)), (2, .int x), (3, .int 5)]) hx hb dX0_followDelegations_85 hl (k := 2) rfl ((nI_add i 1).trans (congrArg nI (by omega))) (by decide) rfl (fun ls hl => ?_)
              refine lv_goto (tgt := 3) hx hb dX0_followDelegations_88 (by decide) ?_
              exact ih3  (i + 1) m9 (by omega) ((fo_next (a := (-1, m9)) (by omega) kc5 (by rw [eto]; exact nI_clamp (by omega)) (pk2_t kc10) rfl c18).symm.trans he) (by omega) _ _ hP hD hS ls (lv_sub hl [0, 3, 4, 5, 6] rfl)
            · skip
              refine lv_bipush (v := (-2)) hx hb dX0_followDelegations_82 (by decide) ?_
              refine xri hx hb hr hlocks hP hD hS ⟨m9, rfl, ?_, ?_⟩ dX0_followDelegations_84
              · exact congrArg Prod.fst ((fo_over (a := (-1, m9)) (by omega) kc5 (by rw [eto]; exact nI_clamp (by omega)) (pk2_t kc10) rfl c18).symm.trans he)
              · exact congrArg Prod.snd ((fo_over (a := (-1, m9)) (by omega) kc5 (by rw [eto]; exact nI_clamp (by omega)) (pk2_t kc10) rfl c18).symm.trans he)
        · skip
          have kc5 := b1_0.mp c5
          refine lv_goto (tgt := 85) hx hb dX0_followDelegations_26 (by decide) ?_
          refine lv_iinc (v := nI (i + 1)) (lv' := [(4, .int (nI (i + 1))), (0, .ref c0), (1, .ref ((pr k).1 3)), (2, .int x), (3, .int 5)]) hx hb dX0_followDelegations_85 hl (k := 0) rfl ((nI_add i 1).trans (congrArg nI (by omega))) (by decide) rfl (fun ls hl => ?_)
          refine lv_goto (tgt := 3) hx hb dX0_followDelegations_88 (by decide) ?_
          exact ih3  (i + 1) m9 (by omega) ((fo_skip (by omega) kc5).symm.trans he) (by omega) _ _ hP hD hS ls (lv_sub hl [0, 1, 2, 3, 4] rfl)
  exact loop3 ((pr k).1 16 + 1) 0 sea (by omega) (rfl) (by omega) _ _ hP hD hS ls (lv_sub hl [0, 1, 2, 3, 4] rfl)

abbrev pX0_search5 (E : xE) (c0 : Nat) (cr : Nat) (rev : Int32) (sea : Int32) (ci : Nat → Option Nat) (N : Nat) (ra : Nat → Nat) (pr : Nat → RowP) (rl : Nat) (x : Int32) (r : Int32) (w : va_W) : Prop := ∃ (sea2 : Int32), w = [(c0, .inr (1, [.ref cr, .int rev, .int sea2]))] ∧ r = (srF ci pr x 5 rl sea).1 ∧ (sea2 = (srF ci pr x 5 rl sea).2)
set_option maxHeartbeats 4000000 in
set_option maxRecDepth 100000 in
theorem kX0_search5 (l : Launch) (E : xE) (c0 : Nat) (cr : Nat) (rev : Int32) (sea : Int32) (ci : Nat → Option Nat) (N : Nat) (ra : Nat → Nat) (pr : Nat → RowP) (rl : Nat) (x : Int32) (hrl : rl < 10) (hok : ∀ i, i < N → rOk (pr i)) (hci : ∀ j i, ci j = some i → i < N) (hto : ∀ k, k < N → ∀ i, i < (pr k).1 16 → isN ((pr k).2.2.2 6 i) 10) : KT l yX0_search wsX0_search 12 297 0 0 E [(c0, .inr (1, [.ref cr, .int rev, .int sea]))] ([(cr, aR E 10 (fun j => (ci j).map ra))] ++ rowsW E N ra pr) [.ref c0, .int (nI rl), .int x, .int 5] (QI E (pX0_search5 E c0 cr rev sea ci N ra pr rl x)) := by
  refine KT.start (cc := cX0_search) (maxL := 5) (ret := (some .int)) (by decide) rfl (Nat.le_of_ble_eq_true rfl) ?_
  intro p e s m below meth c A H hx hb hr hlocks hml hts hown hin hP hR0 hD hap hev hz hA hS ls hl
  have hl : lv_has ls 5 [(0, .ref c0), (1, .int (nI rl)), (2, .int x), (3, .int 5)] := hl
  have hiX0 : ∀ w ∈ wsX00, w ∈ wsX0_search := by decide +kernel
  have hiX4 : ∀ w ∈ wsX40, w ∈ wsX0_search := by decide +kernel
  have hf21 := hts (.fieldLink RX0 21 "SignQuorum$Client" "searchedRoles" "I") (by decide +kernel)
  refine lv_aload_n hx hb dX0_search_0 rfl (lv_at hl 0 rfl) ?_
  refine lv_iload_n hx hb dX0_search_1 rfl (lv_at hl 1 rfl) ?_
  have hP := hP.sub (ws' := [] ++ [(c0, .inr (1, [.ref cr, .int rev, .int sea]))]) [0] rfl
  have hD := hD.sub (ws' := [] ++ [(c0, .inr (1, [.ref cr, .int rev, .int sea]))]) [0] (by decide) rfl
  refine xcr (va_runV (As := [.int (nI rl)]) (rest := []) ⟨hx, hb, hml, hown, hts⟩ (kX0_currentOfJ l E c0 cr rev sea ci ra rl (by first | assumption | omega) H.size) (cwV 1 hts gX0_search_X0_currentOf rfl rfl rfl (by decide +kernel) ⟨Nat.le_of_ble_eq_true rfl, Nat.le_of_ble_eq_true rfl⟩) ⟨CP.blind, (va_recv hev.1 hP (ci := 1) (q0 := 0) rfl rfl), (xpre hev hz hA hP hD hS hR0 hap [0, 1] rfl)⟩ rfl rfl hl.1 rfl (lv_room (Nat.le_of_ble_eq_true rfl)) dX0_search_2 ⟨Nat.le_of_ble_eq_true rfl, Nat.le_of_ble_eq_true rfl⟩) hP hD hS hA (fun r1 w2 H locs h3 hP hD hS => ?_)
  obtain ⟨rfl, rfl, h3⟩ := h3
  try dsimp only at h3
  have hP : va_P E.1 vwCl [(c0, .inr (1, [.ref cr, .int rev, .int sea]))] H := hP
  have hD : va_D A [(c0, .inr (1, [.ref cr, .int rev, .int sea]))] := hD
  cases o4 : ci rl with
  | none =>
    refine lv_astoreN (lv' := [(4, .null), (0, .ref c0), (1, .int (nI rl)), (2, .int x), (3, .int 5)]) hx hb dX0_search_5 hl (by decide) rfl (fun ls hl => ?_)
    refine lv_aloadN hx hb dX0_search_7 (lv_at hl 0 rfl) ?_
    refine lv_ifnullN (tgt := 18) hx hb dX0_search_9 (by decide) ?_
    refine lv_iconst (v := (-1)) hx hb dX0_search_18 (by decide) ?_
    refine xri hx hb hr hlocks hP hD hS ⟨sea, rfl, ?_, ?_⟩ dX0_search_19
    · exact (congrArg Prod.fst (srF_none o4 5)).symm
    · exact (congrArg Prod.snd (srF_none o4 5)).symm
  | some kk =>
    have hap := xmoreA (L := [(ra kk, .inr (5, [.int ((pr kk).2.1 0), .int (nI ((pr kk).1 17)), .int ((pr kk).2.1 1), .long ((pr kk).2.2.1), .ref ((pr kk).1 0), .int (nI ((pr kk).1 12)), .ref ((pr kk).1 1), .ref ((pr kk).1 2), .ref ((pr kk).1 3), .ref ((pr kk).1 4), .int (nI ((pr kk).1 13)), .int (nI ((pr kk).1 14)), .int ((pr kk).2.1 2)])), ((pr kk).1 0, aB E 16 ((pr kk).2.2.2 0)), ((pr kk).1 1, .inr (4, [.ref ((pr kk).1 5), .ref ((pr kk).1 6)])), ((pr kk).1 5, aI E 10 ((pr kk).2.2.2 1)), ((pr kk).1 6, aI E 10 ((pr kk).2.2.2 2)), ((pr kk).1 2, .inr (7, [.ref ((pr kk).1 7), .ref ((pr kk).1 8), .int (nI ((pr kk).1 15))])), ((pr kk).1 7, aI E 7 ((pr kk).2.2.2 3)), ((pr kk).1 8, aI E 7 ((pr kk).2.2.2 4)), ((pr kk).1 3, .inr (2, [.ref ((pr kk).1 9), .ref ((pr kk).1 10), .ref ((pr kk).1 11), .int (nI ((pr kk).1 16))])), ((pr kk).1 9, aI E 6 ((pr kk).2.2.2 5)), ((pr kk).1 10, aI E 6 ((pr kk).2.2.2 6)), ((pr kk).1 11, aZ E 6 ((pr kk).2.2.2 7)), ((pr kk).1 4, aI E 6 ((pr kk).2.2.2 8))]) hap (fun q9 h9 => List.mem_append_right _ (rowsW_mem (E := E) (ra := ra) (pr := pr) (hci _ _ o4) q9 h9))
    have hR0 := xmore (L := [(ra kk, .inr (5, [.int ((pr kk).2.1 0), .int (nI ((pr kk).1 17)), .int ((pr kk).2.1 1), .long ((pr kk).2.2.1), .ref ((pr kk).1 0), .int (nI ((pr kk).1 12)), .ref ((pr kk).1 1), .ref ((pr kk).1 2), .ref ((pr kk).1 3), .ref ((pr kk).1 4), .int (nI ((pr kk).1 13)), .int (nI ((pr kk).1 14)), .int ((pr kk).2.1 2)])), ((pr kk).1 0, aB E 16 ((pr kk).2.2.2 0)), ((pr kk).1 1, .inr (4, [.ref ((pr kk).1 5), .ref ((pr kk).1 6)])), ((pr kk).1 5, aI E 10 ((pr kk).2.2.2 1)), ((pr kk).1 6, aI E 10 ((pr kk).2.2.2 2)), ((pr kk).1 2, .inr (7, [.ref ((pr kk).1 7), .ref ((pr kk).1 8), .int (nI ((pr kk).1 15))])), ((pr kk).1 7, aI E 7 ((pr kk).2.2.2 3)), ((pr kk).1 8, aI E 7 ((pr kk).2.2.2 4)), ((pr kk).1 3, .inr (2, [.ref ((pr kk).1 9), .ref ((pr kk).1 10), .ref ((pr kk).1 11), .int (nI ((pr kk).1 16))])), ((pr kk).1 9, aI E 6 ((pr kk).2.2.2 5)), ((pr kk).1 10, aI E 6 ((pr kk).2.2.2 6)), ((pr kk).1 11, aZ E 6 ((pr kk).2.2.2 7)), ((pr kk).1 4, aI E 6 ((pr kk).2.2.2 8))]) hR0 (fun q9 h9 => List.mem_append_right _ (rowsW_mem (E := E) (ra := ra) (pr := pr) (hci _ _ o4) q9 h9))
    have hap : ∀ q ∈ ([(ra kk, .inr (5, [.int ((pr kk).2.1 0), .int (nI ((pr kk).1 17)), .int ((pr kk).2.1 1), .long ((pr kk).2.2.1), .ref ((pr kk).1 0), .int (nI ((pr kk).1 12)), .ref ((pr kk).1 1), .ref ((pr kk).1 2), .ref ((pr kk).1 3), .ref ((pr kk).1 4), .int (nI ((pr kk).1 13)), .int (nI ((pr kk).1 14)), .int ((pr kk).2.1 2)])), ((pr kk).1 0, aB E 16 ((pr kk).2.2.2 0)), ((pr kk).1 1, .inr (4, [.ref ((pr kk).1 5), .ref ((pr kk).1 6)])), ((pr kk).1 5, aI E 10 ((pr kk).2.2.2 1)), ((pr kk).1 6, aI E 10 ((pr kk).2.2.2 2)), ((pr kk).1 2, .inr (7, [.ref ((pr kk).1 7), .ref ((pr kk).1 8), .int (nI ((pr kk).1 15))])), ((pr kk).1 7, aI E 7 ((pr kk).2.2.2 3)), ((pr kk).1 8, aI E 7 ((pr kk).2.2.2 4)), ((pr kk).1 3, .inr (2, [.ref ((pr kk).1 9), .ref ((pr kk).1 10), .ref ((pr kk).1 11), .int (nI ((pr kk).1 16))])), ((pr kk).1 9, aI E 6 ((pr kk).2.2.2 5)), ((pr kk).1 10, aI E 6 ((pr kk).2.2.2 6)), ((pr kk).1 11, aZ E 6 ((pr kk).2.2.2 7)), ((pr kk).1 4, aI E 6 ((pr kk).2.2.2 8)), (cr, aR E 10 (fun j => (ci j).map ra))] ++ rowsW E N ra pr), ¬ A q.1 := hap
    have hR0 : va_P E.1 vwCl ([(ra kk, .inr (5, [.int ((pr kk).2.1 0), .int (nI ((pr kk).1 17)), .int ((pr kk).2.1 1), .long ((pr kk).2.2.1), .ref ((pr kk).1 0), .int (nI ((pr kk).1 12)), .ref ((pr kk).1 1), .ref ((pr kk).1 2), .ref ((pr kk).1 3), .ref ((pr kk).1 4), .int (nI ((pr kk).1 13)), .int (nI ((pr kk).1 14)), .int ((pr kk).2.1 2)])), ((pr kk).1 0, aB E 16 ((pr kk).2.2.2 0)), ((pr kk).1 1, .inr (4, [.ref ((pr kk).1 5), .ref ((pr kk).1 6)])), ((pr kk).1 5, aI E 10 ((pr kk).2.2.2 1)), ((pr kk).1 6, aI E 10 ((pr kk).2.2.2 2)), ((pr kk).1 2, .inr (7, [.ref ((pr kk).1 7), .ref ((pr kk).1 8), .int (nI ((pr kk).1 15))])), ((pr kk).1 7, aI E 7 ((pr kk).2.2.2 3)), ((pr kk).1 8, aI E 7 ((pr kk).2.2.2 4)), ((pr kk).1 3, .inr (2, [.ref ((pr kk).1 9), .ref ((pr kk).1 10), .ref ((pr kk).1 11), .int (nI ((pr kk).1 16))])), ((pr kk).1 9, aI E 6 ((pr kk).2.2.2 5)), ((pr kk).1 10, aI E 6 ((pr kk).2.2.2 6)), ((pr kk).1 11, aZ E 6 ((pr kk).2.2.2 7)), ((pr kk).1 4, aI E 6 ((pr kk).2.2.2 8)), (cr, aR E 10 (fun j => (ci j).map ra))] ++ rowsW E N ra pr) s.heap := hR0
    have hltkk : kk < N := hci _ _ o4
    obtain ⟨o12kk, o13kk, o14kk, o15kk, o16kk, o17kk⟩ := hok kk (hci _ _ o4)
    refine lv_astore (lv' := [(4, .ref (ra kk)), (0, .ref c0), (1, .int (nI rl)), (2, .int x), (3, .int 5)]) hx hb dX0_search_5 hl (by decide) rfl (fun ls hl => ?_)
    refine lv_aload hx hb dX0_search_7 (lv_at hl 0 rfl) ?_
    refine lv_ifnull hx hb dX0_search_9 ?_
    refine lv_iload_n hx hb dX0_search_12 rfl (lv_at hl 4 rfl) ?_
    refine lv_bipush (v := 10) hx hb dX0_search_13 (by decide) ?_
    refine lv_icmp_lt (tgt := 20) hx hb dX0_search_15 (by decide) (fun c5 => ?_) (fun c5 => absurd (by decide) c5)
    refine lv_aload_n hx hb dX0_search_20 rfl (lv_at hl 1 rfl) ?_
    refine lv_dup hx hb dX0_search_21 rfl ?_
    refine va_get (D := E.1) (ci := 1) (v := .int sea) (C := RX0) (T := TX0) (N := 3) hx hb hts hiX0 hown hev.1 hP 0 rfl rfl 2 (by decide) hf21 (fun _ h9 => h9) rfl dX0_search_22 ?_
    refine lv_iconst (v := 1) hx hb dX0_search_25 (by decide) ?_
    refine lv_iload_n hx hb dX0_search_26 rfl (lv_at hl 2 rfl) ?_
    refine lv_ishl hx hb dX0_search_27 ?_
    refine lv_ior hx hb dX0_search_28 ?_
    refine lv_topi (fun v6 ev6 => ?_)
    refine va_put (D := E.1) (ci := 1) (v := .int v6) (ty := tyX0 2) (C := RX0) (T := TX0) (N := 3) hx hb hts hiX0 tyX0 tyX0_ok nmX0 hown hev.1 hP hD hS 0 rfl rfl 2 (by decide) hf21 (fun _ h9 => h9) rfl (tyX0_ok 2 (by decide)) rfl rfl (Nat.le_of_ble_eq_true rfl) dX0_search_29 (fun H locs hP hD hS => ?_)
    have hP : va_P E.1 vwCl [(c0, .inr (1, [.ref cr, .int rev, .int v6]))] H := hP
    have hD : va_D A [(c0, .inr (1, [.ref cr, .int rev, .int v6]))] := hD
    refine lv_aload hx hb dX0_search_32 (lv_at hl 0 rfl) ?_
    refine lv_iload_n hx hb dX0_search_34 rfl (lv_at hl 3 rfl) ?_
    have hP := hP.sub (ws' := [] ++ [(c0, .inr (1, [.ref cr, .int rev, .int v6]))]) [0] rfl
    have hD := hD.sub (ws' := [] ++ [(c0, .inr (1, [.ref cr, .int rev, .int v6]))]) [0] (by decide) rfl
    refine xci (va_runV (As := [.int x]) (rest := []) ⟨hx, hb, hml, hown, hts⟩ (kX4_hasPath l E (ra kk) ((pr kk).2.1 0) (nI ((pr kk).1 17)) ((pr kk).2.1 1) ((pr kk).2.2.1) ((pr kk).1 0) ((pr kk).1 12) ((pr kk).1 1) ((pr kk).1 2) ((pr kk).1 3) ((pr kk).1 4) ((pr kk).1 13) (nI ((pr kk).1 14)) ((pr kk).2.1 2) ((pr kk).2.2.2 8) x (by first | assumption | omega) H.size) (cwV 1 hts gX0_search_X4_hasPath rfl rfl rfl (by decide +kernel) ⟨Nat.le_of_ble_eq_true rfl, Nat.le_of_ble_eq_true rfl⟩) ⟨CP.blind, (va_recv hev.1 (xro hR0 hap hS) (ci := 5) (q0 := 0) rfl rfl), (xpre hev hz hA hP hD hS hR0 hap [1, 13] rfl)⟩ rfl rfl hl.1 rfl (lv_room (Nat.le_of_ble_eq_true rfl)) dX0_search_35 ⟨Nat.le_of_ble_eq_true rfl, Nat.le_of_ble_eq_true rfl⟩) hP hD hS hA (fun r7 w8 H locs h9 hP hD hS => ?_)
    obtain ⟨rfl, rfl, h9⟩ := h9
    try dsimp only at h9
    have hP : va_P E.1 vwCl [(c0, .inr (1, [.ref cr, .int rev, .int v6]))] H := hP
    have hD : va_D A [(c0, .inr (1, [.ref cr, .int rev, .int v6]))] := hD
    refine lv_if_eq (tgt := 43) hx hb dX0_search_38 (by decide) (fun c10 => ?_) (fun c10 => ?_)
    · skip
      have kc10 := b1_0.mp c10
      refine lv_aload_n hx hb dX0_search_43 rfl (lv_at hl 1 rfl) ?_
      refine lv_aload hx hb dX0_search_44 (lv_at hl 0 rfl) ?_
      refine va_getN (D := E.1) (ci := 5) (v := .ref ((pr kk).1 3)) (C := RX4) (T := TX4) (N := 13) hx hb hts hiX4 hown hev.1 (xro hR0 hap hS) 0 rfl rfl 8 (by decide) (xNF16 hev.2.1) (fun _ h9 => h9) rfl dX0_search_46 ?_
      refine lv_iload_n hx hb dX0_search_49 rfl (lv_at hl 3 rfl) ?_
      refine lv_iload_n hx hb dX0_search_50 rfl (lv_at hl 4 rfl) ?_
      have hP := hP.sub (ws' := [(c0, .inr (1, [.ref cr, .int rev, .int v6]))] ++ []) [0] rfl
      have hD := hD.sub (ws' := [(c0, .inr (1, [.ref cr, .int rev, .int v6]))] ++ []) [0] (by decide) rfl
      refine xci (va_runV (As := [.ref ((pr kk).1 3), .int x, .int 5]) (rest := []) ⟨hx, hb, hml, hown, hts⟩ (kX0_follow5 l E c0 cr rev v6 ci N ra pr kk x (by first | assumption | omega) (by first | assumption | omega) (by first | assumption | omega) (by first | assumption | omega) H.size) (cwV 3 hts gX0_search_X0_followDelegations rfl rfl rfl (by decide +kernel) ⟨Nat.le_of_ble_eq_true rfl, Nat.le_of_ble_eq_true rfl⟩) ⟨CP.blind, (va_recv hev.1 hP.left (ci := 1) (q0 := 0) rfl rfl), (xpreT (X := rowsW E N ra pr) hev hz hA hP hD hS hR0 hap [13] rfl (fun q9 h9 => List.mem_append_right _ h9))⟩ rfl rfl hl.1 rfl (lv_room (Nat.le_of_ble_eq_true rfl)) dX0_search_51 ⟨Nat.le_of_ble_eq_true rfl, Nat.le_of_ble_eq_true rfl⟩) hP hD hS hA (fun r11 w12 H locs h13 hP hD hS => ?_)
      obtain ⟨sea214, rfl, rfl, h13⟩ := h13
      try dsimp only at h13
      have hP : va_P E.1 vwCl [(c0, .inr (1, [.ref cr, .int rev, .int sea214]))] H := hP
      have hD : va_D A [(c0, .inr (1, [.ref cr, .int rev, .int sea214]))] := hD
      refine xri hx hb hr hlocks hP hD hS ⟨sea214, rfl, ?_, ?_⟩ dX0_search_54
      · rw [ev6]
        exact (congrArg Prod.fst (srF_go (m := sea) 4 o4 kc10)).symm
      · rw [ev6] at h13
        exact h13.trans (congrArg Prod.snd (srF_go (m := sea) 4 o4 kc10)).symm
    · skip
      have kc10 := b1_n.mp c10
      refine lv_iload_n hx hb dX0_search_41 rfl (lv_at hl 2 rfl) ?_
      refine xri hx hb hr hlocks hP hD hS ⟨v6, rfl, ?_, ?_⟩ dX0_search_42
      · exact (congrArg Prod.fst (srF_hit (m := sea) 4 o4 kc10)).symm
      · rw [ev6]
        exact (congrArg Prod.snd (srF_hit (m := sea) 4 o4 kc10)).symm

abbrev pX0_follow4 (E : xE) (c0 : Nat) (cr : Nat) (rev : Int32) (sea : Int32) (ci : Nat → Option Nat) (N : Nat) (ra : Nat → Nat) (pr : Nat → RowP) (k : Nat) (x : Int32) (r : Int32) (w : va_W) : Prop := ∃ (sea2 : Int32), w = [(c0, .inr (1, [.ref cr, .int rev, .int sea2]))] ∧ r = (folF (srF ci pr x 5) (pr k) x ((pr k).1 16) 0 sea).1 ∧ (sea2 = (folF (srF ci pr x 5) (pr k) x ((pr k).1 16) 0 sea).2)
set_option maxHeartbeats 4000000 in
set_option maxRecDepth 100000 in
theorem kX0_follow4 (l : Launch) (E : xE) (c0 : Nat) (cr : Nat) (rev : Int32) (sea : Int32) (ci : Nat → Option Nat) (N : Nat) (ra : Nat → Nat) (pr : Nat → RowP) (k : Nat) (x : Int32) (hk : k < N) (hok : ∀ i, i < N → rOk (pr i)) (hci : ∀ j i, ci j = some i → i < N) (hto : ∀ k, k < N → ∀ i, i < (pr k).1 16 → isN ((pr k).2.2.2 6 i) 10) : KT l yX0_followDelegations wsX0_followDelegations 13 321 0 0 E [(c0, .inr (1, [.ref cr, .int rev, .int sea]))] ([(cr, aR E 10 (fun j => (ci j).map ra))] ++ rowsW E N ra pr) [.ref c0, .ref ((pr k).1 3), .int x, .int 4] (QI E (pX0_follow4 E c0 cr rev sea ci N ra pr k x)) := by
  refine KT.start (cc := cX0_followDelegations) (maxL := 7) (ret := (some .int)) (by decide) rfl (Nat.le_of_ble_eq_true rfl) ?_
  intro p e s m below meth c A H hx hb hr hlocks hml hts hown hin hP hR0 hD hap hev hz hA hS ls hl
  have hl : lv_has ls 7 [(0, .ref c0), (1, .ref ((pr k).1 3)), (2, .int x), (3, .int 4)] := hl
  have hiX1 : ∀ w ∈ wsX10, w ∈ wsX0_followDelegations := by decide +kernel
  have hiniX7 := hts (.initialized RX7) (by decide +kernel)
  have hstX7_fits := hts (.static yX7_fits) (by decide +kernel)
  have hi9 := hk
  have hap := xmoreA (L := [(ra k, .inr (5, [.int ((pr k).2.1 0), .int (nI ((pr k).1 17)), .int ((pr k).2.1 1), .long ((pr k).2.2.1), .ref ((pr k).1 0), .int (nI ((pr k).1 12)), .ref ((pr k).1 1), .ref ((pr k).1 2), .ref ((pr k).1 3), .ref ((pr k).1 4), .int (nI ((pr k).1 13)), .int (nI ((pr k).1 14)), .int ((pr k).2.1 2)])), ((pr k).1 0, aB E 16 ((pr k).2.2.2 0)), ((pr k).1 1, .inr (4, [.ref ((pr k).1 5), .ref ((pr k).1 6)])), ((pr k).1 5, aI E 10 ((pr k).2.2.2 1)), ((pr k).1 6, aI E 10 ((pr k).2.2.2 2)), ((pr k).1 2, .inr (7, [.ref ((pr k).1 7), .ref ((pr k).1 8), .int (nI ((pr k).1 15))])), ((pr k).1 7, aI E 7 ((pr k).2.2.2 3)), ((pr k).1 8, aI E 7 ((pr k).2.2.2 4)), ((pr k).1 3, .inr (2, [.ref ((pr k).1 9), .ref ((pr k).1 10), .ref ((pr k).1 11), .int (nI ((pr k).1 16))])), ((pr k).1 9, aI E 6 ((pr k).2.2.2 5)), ((pr k).1 10, aI E 6 ((pr k).2.2.2 6)), ((pr k).1 11, aZ E 6 ((pr k).2.2.2 7)), ((pr k).1 4, aI E 6 ((pr k).2.2.2 8))]) hap (fun q9 h9 => List.mem_append_right _ (rowsW_mem (E := E) (ra := ra) (pr := pr) (hk) q9 h9))
  have hR0 := xmore (L := [(ra k, .inr (5, [.int ((pr k).2.1 0), .int (nI ((pr k).1 17)), .int ((pr k).2.1 1), .long ((pr k).2.2.1), .ref ((pr k).1 0), .int (nI ((pr k).1 12)), .ref ((pr k).1 1), .ref ((pr k).1 2), .ref ((pr k).1 3), .ref ((pr k).1 4), .int (nI ((pr k).1 13)), .int (nI ((pr k).1 14)), .int ((pr k).2.1 2)])), ((pr k).1 0, aB E 16 ((pr k).2.2.2 0)), ((pr k).1 1, .inr (4, [.ref ((pr k).1 5), .ref ((pr k).1 6)])), ((pr k).1 5, aI E 10 ((pr k).2.2.2 1)), ((pr k).1 6, aI E 10 ((pr k).2.2.2 2)), ((pr k).1 2, .inr (7, [.ref ((pr k).1 7), .ref ((pr k).1 8), .int (nI ((pr k).1 15))])), ((pr k).1 7, aI E 7 ((pr k).2.2.2 3)), ((pr k).1 8, aI E 7 ((pr k).2.2.2 4)), ((pr k).1 3, .inr (2, [.ref ((pr k).1 9), .ref ((pr k).1 10), .ref ((pr k).1 11), .int (nI ((pr k).1 16))])), ((pr k).1 9, aI E 6 ((pr k).2.2.2 5)), ((pr k).1 10, aI E 6 ((pr k).2.2.2 6)), ((pr k).1 11, aZ E 6 ((pr k).2.2.2 7)), ((pr k).1 4, aI E 6 ((pr k).2.2.2 8))]) hR0 (fun q9 h9 => List.mem_append_right _ (rowsW_mem (E := E) (ra := ra) (pr := pr) (hk) q9 h9))
  have hap : ∀ q ∈ ([(ra k, .inr (5, [.int ((pr k).2.1 0), .int (nI ((pr k).1 17)), .int ((pr k).2.1 1), .long ((pr k).2.2.1), .ref ((pr k).1 0), .int (nI ((pr k).1 12)), .ref ((pr k).1 1), .ref ((pr k).1 2), .ref ((pr k).1 3), .ref ((pr k).1 4), .int (nI ((pr k).1 13)), .int (nI ((pr k).1 14)), .int ((pr k).2.1 2)])), ((pr k).1 0, aB E 16 ((pr k).2.2.2 0)), ((pr k).1 1, .inr (4, [.ref ((pr k).1 5), .ref ((pr k).1 6)])), ((pr k).1 5, aI E 10 ((pr k).2.2.2 1)), ((pr k).1 6, aI E 10 ((pr k).2.2.2 2)), ((pr k).1 2, .inr (7, [.ref ((pr k).1 7), .ref ((pr k).1 8), .int (nI ((pr k).1 15))])), ((pr k).1 7, aI E 7 ((pr k).2.2.2 3)), ((pr k).1 8, aI E 7 ((pr k).2.2.2 4)), ((pr k).1 3, .inr (2, [.ref ((pr k).1 9), .ref ((pr k).1 10), .ref ((pr k).1 11), .int (nI ((pr k).1 16))])), ((pr k).1 9, aI E 6 ((pr k).2.2.2 5)), ((pr k).1 10, aI E 6 ((pr k).2.2.2 6)), ((pr k).1 11, aZ E 6 ((pr k).2.2.2 7)), ((pr k).1 4, aI E 6 ((pr k).2.2.2 8)), (cr, aR E 10 (fun j => (ci j).map ra))] ++ rowsW E N ra pr), ¬ A q.1 := hap
  have hR0 : va_P E.1 vwCl ([(ra k, .inr (5, [.int ((pr k).2.1 0), .int (nI ((pr k).1 17)), .int ((pr k).2.1 1), .long ((pr k).2.2.1), .ref ((pr k).1 0), .int (nI ((pr k).1 12)), .ref ((pr k).1 1), .ref ((pr k).1 2), .ref ((pr k).1 3), .ref ((pr k).1 4), .int (nI ((pr k).1 13)), .int (nI ((pr k).1 14)), .int ((pr k).2.1 2)])), ((pr k).1 0, aB E 16 ((pr k).2.2.2 0)), ((pr k).1 1, .inr (4, [.ref ((pr k).1 5), .ref ((pr k).1 6)])), ((pr k).1 5, aI E 10 ((pr k).2.2.2 1)), ((pr k).1 6, aI E 10 ((pr k).2.2.2 2)), ((pr k).1 2, .inr (7, [.ref ((pr k).1 7), .ref ((pr k).1 8), .int (nI ((pr k).1 15))])), ((pr k).1 7, aI E 7 ((pr k).2.2.2 3)), ((pr k).1 8, aI E 7 ((pr k).2.2.2 4)), ((pr k).1 3, .inr (2, [.ref ((pr k).1 9), .ref ((pr k).1 10), .ref ((pr k).1 11), .int (nI ((pr k).1 16))])), ((pr k).1 9, aI E 6 ((pr k).2.2.2 5)), ((pr k).1 10, aI E 6 ((pr k).2.2.2 6)), ((pr k).1 11, aZ E 6 ((pr k).2.2.2 7)), ((pr k).1 4, aI E 6 ((pr k).2.2.2 8)), (cr, aR E 10 (fun j => (ci j).map ra))] ++ rowsW E N ra pr) s.heap := hR0
  have hltk : k < N := hk
  obtain ⟨o12k, o13k, o14k, o15k, o16k, o17k⟩ := hok k (hk)
  refine lv_iconst (v := 0) hx hb dX0_followDelegations_0 (by decide) ?_
  refine lv_istore (lv' := [(4, .int 0), (0, .ref c0), (1, .ref ((pr k).1 3)), (2, .int x), (3, .int 4)]) hx hb dX0_followDelegations_1 hl (by decide) rfl (fun ls hl => ?_)
  have loop3 : ∀ (fz3 : Nat) (i : Nat) (m9 : Int32), (i ≤ (pr k).1 16) → (folF (srF ci pr x 5) (pr k) x ((pr k).1 16 - i) i m9 = folF (srF ci pr x 5) (pr k) x ((pr k).1 16) 0 sea) → ((pr k).1 16 - i < fz3) → ∀ (H : Heap) (locs : List Loc), va_P E.1 vwCl [(c0, .inr (1, [.ref cr, .int rev, .int m9]))] H → va_D A [(c0, .inr (1, [.ref cr, .int rev, .int m9]))] → va_S A s.heap H locs → ∀ ls : Array Slot, lv_has ls 7 [(4, .int (nI i)), (0, .ref c0), (1, .ref ((pr k).1 3)), (2, .int x), (3, .int 4)] → W p l e ({ frames := 13, cells := 0, slots := 0, locals := 321 } : Room) s m ([.ref c0, .ref ((pr k).1 3), .int x, .int 4] : List Value).toArray below meth c H locs 0 0 (MQ below (QI E (pX0_follow4 E c0 cr rev sea ci N ra pr k x) A) ([.ref c0, .ref ((pr k).1 3), .int x, .int 4] : List Value).toArray s 0 0 A) (F0 m 3 ls []) := by
    intro fz3
    induction fz3 with
    | zero =>
      intro i m9 hi he hfuel
      exact absurd hfuel (by omega)
    | succ fz3 ih3 =>
      intro i m9 hi he hfuel H locs hP hD hS ls hl
      refine lv_iload hx hb dX0_followDelegations_3 (lv_at hl 0 rfl) ?_
      refine lv_aload_n hx hb dX0_followDelegations_5 rfl (lv_at hl 2 rfl) ?_
      refine va_getN (D := E.1) (ci := 2) (v := .int (nI ((pr k).1 16))) (C := RX1) (T := TX1) (N := 4) hx hb hts hiX1 hown hev.1 (xro hR0 hap hS) 8 rfl rfl 3 (by decide) (xNF4 hev.2.1) (fun _ h9 => h9) rfl dX0_followDelegations_6 ?_
      refine lv_icmp_ge (tgt := 91) hx hb dX0_followDelegations_9 (by decide) (fun c1 => ?_) (fun c1 => ?_)
      · skip
        have kc1 : ((pr k).1 16) ≤ i := (nI_leI (a := ((pr k).1 16)) (b := i) (by omega) (by omega)).mp c1
        refine lv_iconst (v := (-1)) hx hb dX0_followDelegations_91 (by decide) ?_
        refine xri hx hb hr hlocks hP hD hS ⟨m9, rfl, ?_, ?_⟩ dX0_followDelegations_92
        · exact congrArg Prod.fst ((fo_end (by omega)).symm.trans he)
        · exact congrArg Prod.snd ((fo_end (by omega)).symm.trans he)
      · skip
        have kc1 : ¬ ((pr k).1 16) ≤ i := fun h9 => c1 ((nI_leI (a := ((pr k).1 16)) (b := i) (by omega) (by omega)).mpr h9)
        refine lv_aload_n hx hb dX0_followDelegations_12 rfl (lv_at hl 2 rfl) ?_
        refine va_getN (D := E.1) (ci := 2) (v := .ref ((pr k).1 9)) (C := RX1) (T := TX1) (N := 4) hx hb hts hiX1 hown hev.1 (xro hR0 hap hS) 8 rfl rfl 0 (by decide) (xNF1 hev.2.1) (fun _ h9 => h9) rfl dX0_followDelegations_13 ?_
        refine lv_iload hx hb dX0_followDelegations_16 (lv_at hl 0 rfl) ?_
        refine xiald (k := (i)) hx hb hev.1 (xro hR0 hap hS) 9 1 rfl rfl (by omega) (by decide) dX0_followDelegations_18 ?_
        refine lv_iload_n hx hb dX0_followDelegations_19 rfl (lv_at hl 3 rfl) ?_
        have hP := hP.sub (ws' := [] ++ [(c0, .inr (1, [.ref cr, .int rev, .int m9]))]) [0] rfl
        have hD := hD.sub (ws' := [] ++ [(c0, .inr (1, [.ref cr, .int rev, .int m9]))]) [0] (by decide) rfl
        refine xci (va_runSN (As := [.int (((pr k).2.2.2 5) i), .int x]) (rest := []) ⟨hx, hb, hml, hown, hts⟩ (kX7_fits l E (((pr k).2.2.2 5) i) x  H.size) ⟨va_cnB 2 hts gX0_followDelegations_X7_fits_n108 rfl rfl rfl (xNM6 hev.2.1) hiniX7 (by decide +kernel) ⟨Nat.le_of_ble_eq_true rfl, Nat.le_of_ble_eq_true rfl⟩, hstX7_fits, trivial⟩ ⟨CP.blind, (xpre hev hz hA hP hD hS hR0 hap [] rfl)⟩ rfl rfl hl.1 rfl (lv_room (Nat.le_of_ble_eq_true rfl)) dX0_followDelegations_20 ⟨Nat.le_of_ble_eq_true rfl, Nat.le_of_ble_eq_true rfl⟩) hP hD hS hA (fun r2 w3 H locs h4 hP hD hS => ?_)
        obtain ⟨rfl, rfl, h4⟩ := h4
        try dsimp only at h4
        have hP : va_P E.1 vwCl [(c0, .inr (1, [.ref cr, .int rev, .int m9]))] H := hP
        have hD : va_D A [(c0, .inr (1, [.ref cr, .int rev, .int m9]))] := hD
        refine lv_if_ne (tgt := 29) hx hb dX0_followDelegations_23 (by decide) (fun c5 => ?_) (fun c5 => ?_)
        · skip
          have kc5 := b1_n.mp c5
          refine lv_aload_n hx hb dX0_followDelegations_29 rfl (lv_at hl 2 rfl) ?_
          refine va_getN (D := E.1) (ci := 2) (v := .ref ((pr k).1 10)) (C := RX1) (T := TX1) (N := 4) hx hb hts hiX1 hown hev.1 (xro hR0 hap hS) 8 rfl rfl 1 (by decide) (xNF2 hev.2.1) (fun _ h9 => h9) rfl dX0_followDelegations_30 ?_
          refine lv_iload hx hb dX0_followDelegations_33 (lv_at hl 0 rfl) ?_
          refine xiald (k := (i)) hx hb hev.1 (xro hR0 hap hS) 10 1 rfl rfl (by omega) (by decide) dX0_followDelegations_35 ?_
          obtain ⟨to6, hto6, eto⟩ := hto k hk i (by omega)
          refine xtop (y := nI to6) (eto) ?_
          refine lv_istore (lv' := [(5, .int (nI to6)), (4, .int (nI i)), (0, .ref c0), (1, .ref ((pr k).1 3)), (2, .int x), (3, .int 4)]) hx hb dX0_followDelegations_36 hl (by decide) rfl (fun ls hl => ?_)
          refine lv_aload_n hx hb dX0_followDelegations_38 rfl (lv_at hl 2 rfl) ?_
          refine lv_iload hx hb dX0_followDelegations_39 (lv_at hl 0 rfl) ?_
          have hP := hP.sub (ws' := [] ++ [(c0, .inr (1, [.ref cr, .int rev, .int m9]))]) [0] rfl
          have hD := hD.sub (ws' := [] ++ [(c0, .inr (1, [.ref cr, .int rev, .int m9]))]) [0] (by decide) rfl
          refine xci (va_runV (As := [.int (nI to6)]) (rest := []) ⟨hx, hb, hml, hown, hts⟩ (kX0_isSearched l E c0 cr rev m9 (nI to6)  H.size) (cwV 1 hts gX0_followDelegations_X0_isSearched rfl rfl rfl (by decide +kernel) ⟨Nat.le_of_ble_eq_true rfl, Nat.le_of_ble_eq_true rfl⟩) ⟨CP.blind, (va_recv hev.1 hP (ci := 1) (q0 := 0) rfl rfl), (xpre hev hz hA hP hD hS hR0 hap [0] rfl)⟩ rfl rfl hl.1 rfl (lv_room (Nat.le_of_ble_eq_true rfl)) dX0_followDelegations_41 ⟨Nat.le_of_ble_eq_true rfl, Nat.le_of_ble_eq_true rfl⟩) hP hD hS hA (fun r7 w8 H locs h9 hP hD hS => ?_)
          obtain ⟨rfl, rfl, h9⟩ := h9
          try dsimp only at h9
          have hP : va_P E.1 vwCl [(c0, .inr (1, [.ref cr, .int rev, .int m9]))] H := hP
          have hD : va_D A [(c0, .inr (1, [.ref cr, .int rev, .int m9]))] := hD
          refine lv_if_eq (tgt := 51) hx hb dX0_followDelegations_44 (by decide) (fun c10 => ?_) (fun c10 => ?_)
          · skip
            have kc10 := b1_0.mp c10
            refine lv_aload_n hx hb dX0_followDelegations_51 rfl (lv_at hl 2 rfl) ?_
            refine lv_iload hx hb dX0_followDelegations_52 (lv_at hl 0 rfl) ?_
            refine lv_iload_n hx hb dX0_followDelegations_54 rfl (lv_at hl 4 rfl) ?_
            refine lv_iload_n hx hb dX0_followDelegations_55 rfl (lv_at hl 5 rfl) ?_
            refine lv_iconst (v := 1) hx hb dX0_followDelegations_56 (by decide) ?_
            refine lv_iadd hx hb dX0_followDelegations_57 ?_
            refine xtop (y := 5) (by decide) ?_
            have hP := hP.sub (ws' := [(c0, .inr (1, [.ref cr, .int rev, .int m9]))] ++ []) [0] rfl
            have hD := hD.sub (ws' := [(c0, .inr (1, [.ref cr, .int rev, .int m9]))] ++ []) [0] (by decide) rfl
            refine xci (va_runV (As := [.int (nI to6), .int x, .int 5]) (rest := []) ⟨hx, hb, hml, hown, hts⟩ (kX0_search5 l E c0 cr rev m9 ci N ra pr to6 x (by first | assumption | omega) (by first | assumption | omega) (by first | assumption | omega) (by first | assumption | omega) H.size) (cwV 3 hts gX0_followDelegations_X0_search rfl rfl rfl (by decide +kernel) ⟨Nat.le_of_ble_eq_true rfl, Nat.le_of_ble_eq_true rfl⟩) ⟨CP.blind, (va_recv hev.1 hP.left (ci := 1) (q0 := 0) rfl rfl), (xpreT (X := rowsW E N ra pr) hev hz hA hP hD hS hR0 hap [13] rfl (fun q9 h9 => List.mem_append_right _ h9))⟩ rfl rfl hl.1 rfl (lv_room (Nat.le_of_ble_eq_true rfl)) dX0_followDelegations_58 ⟨Nat.le_of_ble_eq_true rfl, Nat.le_of_ble_eq_true rfl⟩) hP hD hS hA (fun r11 w12 H locs h13 hP hD hS => ?_)
            obtain ⟨sea214, rfl, rfl, h13⟩ := h13
            try dsimp only at h13
            have hP : va_P E.1 vwCl [(c0, .inr (1, [.ref cr, .int rev, .int sea214]))] H := hP
            have hD : va_D A [(c0, .inr (1, [.ref cr, .int rev, .int sea214]))] := hD
            refine lv_istore (lv' := [(6, .int ((srF ci pr x 5 to6 m9).1)), (5, .int (nI to6)), (4, .int (nI i)), (0, .ref c0), (1, .ref ((pr k).1 3)), (2, .int x), (3, .int 4)]) hx hb dX0_followDelegations_61 hl (by decide) rfl (fun ls hl => ?_)
            refine lv_iload hx hb dX0_followDelegations_63 (lv_at hl 0 rfl) ?_
            refine lv_iconst (v := (-1)) hx hb dX0_followDelegations_65 (by decide) ?_
            refine lv_icmp_eq (tgt := 72) hx hb dX0_followDelegations_66 (by decide) (fun c15 => ?_) (fun c15 => ?_)
            · skip
              refine lv_aload_n hx hb dX0_followDelegations_72 rfl (lv_at hl 4 rfl) ?_
              refine va_getN (D := E.1) (ci := 2) (v := .ref ((pr k).1 11)) (C := RX1) (T := TX1) (N := 4) hx hb hts hiX1 hown hev.1 (xro hR0 hap hS) 8 rfl rfl 2 (by decide) (xNF3 hev.2.1) (fun _ h9 => h9) rfl dX0_followDelegations_73 ?_
              refine lv_iload hx hb dX0_followDelegations_76 (lv_at hl 2 rfl) ?_
              refine xzald (k := (i)) hx hb hev.1 (xro hR0 hap hS) 11 3 rfl rfl (by omega) (by decide) dX0_followDelegations_78 ?_
              refine lv_if_eq (tgt := 85) hx hb dX0_followDelegations_79 (by decide) (fun c16 => ?_) (fun c16 => ?_)
              · skip
                refine lv_iinc (v := nI (i + 1)) (lv' := [(4, .int (nI (i + 1))), (6, .int ((srF ci pr x 5 to6 m9).1)), (5, .int (nI to6)), (0, .ref c0), (1, .ref ((pr k).1 3)), (2, .int x), (3, .int 4)]) hx hb dX0_followDelegations_85 hl (k := 2) rfl ((nI_add i 1).trans (congrArg nI (by omega))) (by decide) rfl (fun ls hl => ?_)
                refine lv_goto (tgt := 3) hx hb dX0_followDelegations_88 (by decide) ?_
                exact ih3  (i + 1) sea214 (by omega) (((fo_next (a := (srF ci pr x 5 to6 m9)) (by omega) kc5 (by rw [eto]; exact nI_clamp (by omega)) (pk2_f kc10) c15 c16).trans (by rw [← h13])).symm.trans he) (by omega) _ _ hP hD hS ls (lv_sub hl [0, 3, 4, 5, 6] rfl)
              · skip
                refine lv_bipush (v := (-2)) hx hb dX0_followDelegations_82 (by decide) ?_
                refine xri hx hb hr hlocks hP hD hS ⟨sea214, rfl, ?_, ?_⟩ dX0_followDelegations_84
                · exact congrArg Prod.fst ((fo_over (a := (srF ci pr x 5 to6 m9)) (by omega) kc5 (by rw [eto]; exact nI_clamp (by omega)) (pk2_f kc10) c15 c16).symm.trans he)
                · have q9 := congrArg Prod.snd ((fo_over (a := (srF ci pr x 5 to6 m9)) (by omega) kc5 (by rw [eto]; exact nI_clamp (by omega)) (pk2_f kc10) c15 c16).symm.trans he)
                  exact h13.trans q9
            · skip
              refine lv_iload hx hb dX0_followDelegations_69 (lv_at hl 0 rfl) ?_
              refine xri hx hb hr hlocks hP hD hS ⟨sea214, rfl, ?_, ?_⟩ dX0_followDelegations_71
              · exact (congrArg Prod.fst ((fo_hit (a := (srF ci pr x 5 to6 m9)) (by omega) kc5 (by rw [eto]; exact nI_clamp (by omega)) (pk2_f kc10) c15).symm.trans he))
              · exact h13.trans (congrArg Prod.snd ((fo_hit (a := (srF ci pr x 5 to6 m9)) (by omega) kc5 (by rw [eto]; exact nI_clamp (by omega)) (pk2_f kc10) c15).symm.trans he))
          · skip
            have kc10 := b1_n.mp c10
            refine lv_iconst (v := (-1)) hx hb dX0_followDelegations_47 (by decide) ?_
            refine lv_goto (tgt := 61) hx hb dX0_followDelegations_48 (by decide) ?_
            refine lv_istore (lv' := [(6, .int (-1)), (5, .int (nI to6)), (4, .int (nI i)), (0, .ref c0), (1, .ref ((pr k).1 3)), (2, .int x), (3, .int 4)]) hx hb dX0_followDelegations_61 hl (by decide) rfl (fun ls hl => ?_)
            refine lv_iload hx hb dX0_followDelegations_63 (lv_at hl 0 rfl) ?_
            refine lv_iconst (v := (-1)) hx hb dX0_followDelegations_65 (by decide) ?_
            refine lv_icmp_eq (tgt := 72) hx hb dX0_followDelegations_66 (by decide) (fun c17 => ?_) (fun c17 => absurd (by decide) c17)
            refine lv_aload_n hx hb dX0_followDelegations_72 rfl (lv_at hl 4 rfl) ?_
            refine va_getN (D := E.1) (ci := 2) (v := .ref ((pr k).1 11)) (C := RX1) (T := TX1) (N := 4) hx hb hts hiX1 hown hev.1 (xro hR0 hap hS) 8 rfl rfl 2 (by decide) (xNF3 hev.2.1) (fun _ h9 => h9) rfl dX0_followDelegations_73 ?_
            refine lv_iload hx hb dX0_followDelegations_76 (lv_at hl 2 rfl) ?_
            refine xzald (k := (i)) hx hb hev.1 (xro hR0 hap hS) 11 3 rfl rfl (by omega) (by decide) dX0_followDelegations_78 ?_
            refine lv_if_eq (tgt := 85) hx hb dX0_followDelegations_79 (by decide) (fun c18 => ?_) (fun c18 => ?_)
            · skip
              refine lv_iinc (v := nI (i + 1)) (lv' := [(4, .int (nI (i + 1))), (6, .int (-1)), (5, .int (nI to6)), (0, .ref c0), (1, .ref ((pr k).1 3)), (2, .int x), (3, .int 4)]) hx hb dX0_followDelegations_85 hl (k := 2) rfl ((nI_add i 1).trans (congrArg nI (by omega))) (by decide) rfl (fun ls hl => ?_)
              refine lv_goto (tgt := 3) hx hb dX0_followDelegations_88 (by decide) ?_
              exact ih3  (i + 1) m9 (by omega) ((fo_next (a := (-1, m9)) (by omega) kc5 (by rw [eto]; exact nI_clamp (by omega)) (pk2_t kc10) rfl c18).symm.trans he) (by omega) _ _ hP hD hS ls (lv_sub hl [0, 3, 4, 5, 6] rfl)
            · skip
              refine lv_bipush (v := (-2)) hx hb dX0_followDelegations_82 (by decide) ?_
              refine xri hx hb hr hlocks hP hD hS ⟨m9, rfl, ?_, ?_⟩ dX0_followDelegations_84
              · exact congrArg Prod.fst ((fo_over (a := (-1, m9)) (by omega) kc5 (by rw [eto]; exact nI_clamp (by omega)) (pk2_t kc10) rfl c18).symm.trans he)
              · exact congrArg Prod.snd ((fo_over (a := (-1, m9)) (by omega) kc5 (by rw [eto]; exact nI_clamp (by omega)) (pk2_t kc10) rfl c18).symm.trans he)
        · skip
          have kc5 := b1_0.mp c5
          refine lv_goto (tgt := 85) hx hb dX0_followDelegations_26 (by decide) ?_
          refine lv_iinc (v := nI (i + 1)) (lv' := [(4, .int (nI (i + 1))), (0, .ref c0), (1, .ref ((pr k).1 3)), (2, .int x), (3, .int 4)]) hx hb dX0_followDelegations_85 hl (k := 0) rfl ((nI_add i 1).trans (congrArg nI (by omega))) (by decide) rfl (fun ls hl => ?_)
          refine lv_goto (tgt := 3) hx hb dX0_followDelegations_88 (by decide) ?_
          exact ih3  (i + 1) m9 (by omega) ((fo_skip (by omega) kc5).symm.trans he) (by omega) _ _ hP hD hS ls (lv_sub hl [0, 1, 2, 3, 4] rfl)
  exact loop3 ((pr k).1 16 + 1) 0 sea (by omega) (rfl) (by omega) _ _ hP hD hS ls (lv_sub hl [0, 1, 2, 3, 4] rfl)

abbrev pX0_search4 (E : xE) (c0 : Nat) (cr : Nat) (rev : Int32) (sea : Int32) (ci : Nat → Option Nat) (N : Nat) (ra : Nat → Nat) (pr : Nat → RowP) (rl : Nat) (x : Int32) (r : Int32) (w : va_W) : Prop := ∃ (sea2 : Int32), w = [(c0, .inr (1, [.ref cr, .int rev, .int sea2]))] ∧ r = (srF ci pr x 6 rl sea).1 ∧ (sea2 = (srF ci pr x 6 rl sea).2)
set_option maxHeartbeats 4000000 in
set_option maxRecDepth 100000 in
theorem kX0_search4 (l : Launch) (E : xE) (c0 : Nat) (cr : Nat) (rev : Int32) (sea : Int32) (ci : Nat → Option Nat) (N : Nat) (ra : Nat → Nat) (pr : Nat → RowP) (rl : Nat) (x : Int32) (hrl : rl < 10) (hok : ∀ i, i < N → rOk (pr i)) (hci : ∀ j i, ci j = some i → i < N) (hto : ∀ k, k < N → ∀ i, i < (pr k).1 16 → isN ((pr k).2.2.2 6 i) 10) : KT l yX0_search wsX0_search 14 347 0 0 E [(c0, .inr (1, [.ref cr, .int rev, .int sea]))] ([(cr, aR E 10 (fun j => (ci j).map ra))] ++ rowsW E N ra pr) [.ref c0, .int (nI rl), .int x, .int 4] (QI E (pX0_search4 E c0 cr rev sea ci N ra pr rl x)) := by
  refine KT.start (cc := cX0_search) (maxL := 5) (ret := (some .int)) (by decide) rfl (Nat.le_of_ble_eq_true rfl) ?_
  intro p e s m below meth c A H hx hb hr hlocks hml hts hown hin hP hR0 hD hap hev hz hA hS ls hl
  have hl : lv_has ls 5 [(0, .ref c0), (1, .int (nI rl)), (2, .int x), (3, .int 4)] := hl
  have hiX0 : ∀ w ∈ wsX00, w ∈ wsX0_search := by decide +kernel
  have hiX4 : ∀ w ∈ wsX40, w ∈ wsX0_search := by decide +kernel
  have hf21 := hts (.fieldLink RX0 21 "SignQuorum$Client" "searchedRoles" "I") (by decide +kernel)
  refine lv_aload_n hx hb dX0_search_0 rfl (lv_at hl 0 rfl) ?_
  refine lv_iload_n hx hb dX0_search_1 rfl (lv_at hl 1 rfl) ?_
  have hP := hP.sub (ws' := [] ++ [(c0, .inr (1, [.ref cr, .int rev, .int sea]))]) [0] rfl
  have hD := hD.sub (ws' := [] ++ [(c0, .inr (1, [.ref cr, .int rev, .int sea]))]) [0] (by decide) rfl
  refine xcr (va_runV (As := [.int (nI rl)]) (rest := []) ⟨hx, hb, hml, hown, hts⟩ (kX0_currentOfJ l E c0 cr rev sea ci ra rl (by first | assumption | omega) H.size) (cwV 1 hts gX0_search_X0_currentOf rfl rfl rfl (by decide +kernel) ⟨Nat.le_of_ble_eq_true rfl, Nat.le_of_ble_eq_true rfl⟩) ⟨CP.blind, (va_recv hev.1 hP (ci := 1) (q0 := 0) rfl rfl), (xpre hev hz hA hP hD hS hR0 hap [0, 1] rfl)⟩ rfl rfl hl.1 rfl (lv_room (Nat.le_of_ble_eq_true rfl)) dX0_search_2 ⟨Nat.le_of_ble_eq_true rfl, Nat.le_of_ble_eq_true rfl⟩) hP hD hS hA (fun r1 w2 H locs h3 hP hD hS => ?_)
  obtain ⟨rfl, rfl, h3⟩ := h3
  try dsimp only at h3
  have hP : va_P E.1 vwCl [(c0, .inr (1, [.ref cr, .int rev, .int sea]))] H := hP
  have hD : va_D A [(c0, .inr (1, [.ref cr, .int rev, .int sea]))] := hD
  cases o4 : ci rl with
  | none =>
    refine lv_astoreN (lv' := [(4, .null), (0, .ref c0), (1, .int (nI rl)), (2, .int x), (3, .int 4)]) hx hb dX0_search_5 hl (by decide) rfl (fun ls hl => ?_)
    refine lv_aloadN hx hb dX0_search_7 (lv_at hl 0 rfl) ?_
    refine lv_ifnullN (tgt := 18) hx hb dX0_search_9 (by decide) ?_
    refine lv_iconst (v := (-1)) hx hb dX0_search_18 (by decide) ?_
    refine xri hx hb hr hlocks hP hD hS ⟨sea, rfl, ?_, ?_⟩ dX0_search_19
    · exact (congrArg Prod.fst (srF_none o4 6)).symm
    · exact (congrArg Prod.snd (srF_none o4 6)).symm
  | some kk =>
    have hap := xmoreA (L := [(ra kk, .inr (5, [.int ((pr kk).2.1 0), .int (nI ((pr kk).1 17)), .int ((pr kk).2.1 1), .long ((pr kk).2.2.1), .ref ((pr kk).1 0), .int (nI ((pr kk).1 12)), .ref ((pr kk).1 1), .ref ((pr kk).1 2), .ref ((pr kk).1 3), .ref ((pr kk).1 4), .int (nI ((pr kk).1 13)), .int (nI ((pr kk).1 14)), .int ((pr kk).2.1 2)])), ((pr kk).1 0, aB E 16 ((pr kk).2.2.2 0)), ((pr kk).1 1, .inr (4, [.ref ((pr kk).1 5), .ref ((pr kk).1 6)])), ((pr kk).1 5, aI E 10 ((pr kk).2.2.2 1)), ((pr kk).1 6, aI E 10 ((pr kk).2.2.2 2)), ((pr kk).1 2, .inr (7, [.ref ((pr kk).1 7), .ref ((pr kk).1 8), .int (nI ((pr kk).1 15))])), ((pr kk).1 7, aI E 7 ((pr kk).2.2.2 3)), ((pr kk).1 8, aI E 7 ((pr kk).2.2.2 4)), ((pr kk).1 3, .inr (2, [.ref ((pr kk).1 9), .ref ((pr kk).1 10), .ref ((pr kk).1 11), .int (nI ((pr kk).1 16))])), ((pr kk).1 9, aI E 6 ((pr kk).2.2.2 5)), ((pr kk).1 10, aI E 6 ((pr kk).2.2.2 6)), ((pr kk).1 11, aZ E 6 ((pr kk).2.2.2 7)), ((pr kk).1 4, aI E 6 ((pr kk).2.2.2 8))]) hap (fun q9 h9 => List.mem_append_right _ (rowsW_mem (E := E) (ra := ra) (pr := pr) (hci _ _ o4) q9 h9))
    have hR0 := xmore (L := [(ra kk, .inr (5, [.int ((pr kk).2.1 0), .int (nI ((pr kk).1 17)), .int ((pr kk).2.1 1), .long ((pr kk).2.2.1), .ref ((pr kk).1 0), .int (nI ((pr kk).1 12)), .ref ((pr kk).1 1), .ref ((pr kk).1 2), .ref ((pr kk).1 3), .ref ((pr kk).1 4), .int (nI ((pr kk).1 13)), .int (nI ((pr kk).1 14)), .int ((pr kk).2.1 2)])), ((pr kk).1 0, aB E 16 ((pr kk).2.2.2 0)), ((pr kk).1 1, .inr (4, [.ref ((pr kk).1 5), .ref ((pr kk).1 6)])), ((pr kk).1 5, aI E 10 ((pr kk).2.2.2 1)), ((pr kk).1 6, aI E 10 ((pr kk).2.2.2 2)), ((pr kk).1 2, .inr (7, [.ref ((pr kk).1 7), .ref ((pr kk).1 8), .int (nI ((pr kk).1 15))])), ((pr kk).1 7, aI E 7 ((pr kk).2.2.2 3)), ((pr kk).1 8, aI E 7 ((pr kk).2.2.2 4)), ((pr kk).1 3, .inr (2, [.ref ((pr kk).1 9), .ref ((pr kk).1 10), .ref ((pr kk).1 11), .int (nI ((pr kk).1 16))])), ((pr kk).1 9, aI E 6 ((pr kk).2.2.2 5)), ((pr kk).1 10, aI E 6 ((pr kk).2.2.2 6)), ((pr kk).1 11, aZ E 6 ((pr kk).2.2.2 7)), ((pr kk).1 4, aI E 6 ((pr kk).2.2.2 8))]) hR0 (fun q9 h9 => List.mem_append_right _ (rowsW_mem (E := E) (ra := ra) (pr := pr) (hci _ _ o4) q9 h9))
    have hap : ∀ q ∈ ([(ra kk, .inr (5, [.int ((pr kk).2.1 0), .int (nI ((pr kk).1 17)), .int ((pr kk).2.1 1), .long ((pr kk).2.2.1), .ref ((pr kk).1 0), .int (nI ((pr kk).1 12)), .ref ((pr kk).1 1), .ref ((pr kk).1 2), .ref ((pr kk).1 3), .ref ((pr kk).1 4), .int (nI ((pr kk).1 13)), .int (nI ((pr kk).1 14)), .int ((pr kk).2.1 2)])), ((pr kk).1 0, aB E 16 ((pr kk).2.2.2 0)), ((pr kk).1 1, .inr (4, [.ref ((pr kk).1 5), .ref ((pr kk).1 6)])), ((pr kk).1 5, aI E 10 ((pr kk).2.2.2 1)), ((pr kk).1 6, aI E 10 ((pr kk).2.2.2 2)), ((pr kk).1 2, .inr (7, [.ref ((pr kk).1 7), .ref ((pr kk).1 8), .int (nI ((pr kk).1 15))])), ((pr kk).1 7, aI E 7 ((pr kk).2.2.2 3)), ((pr kk).1 8, aI E 7 ((pr kk).2.2.2 4)), ((pr kk).1 3, .inr (2, [.ref ((pr kk).1 9), .ref ((pr kk).1 10), .ref ((pr kk).1 11), .int (nI ((pr kk).1 16))])), ((pr kk).1 9, aI E 6 ((pr kk).2.2.2 5)), ((pr kk).1 10, aI E 6 ((pr kk).2.2.2 6)), ((pr kk).1 11, aZ E 6 ((pr kk).2.2.2 7)), ((pr kk).1 4, aI E 6 ((pr kk).2.2.2 8)), (cr, aR E 10 (fun j => (ci j).map ra))] ++ rowsW E N ra pr), ¬ A q.1 := hap
    have hR0 : va_P E.1 vwCl ([(ra kk, .inr (5, [.int ((pr kk).2.1 0), .int (nI ((pr kk).1 17)), .int ((pr kk).2.1 1), .long ((pr kk).2.2.1), .ref ((pr kk).1 0), .int (nI ((pr kk).1 12)), .ref ((pr kk).1 1), .ref ((pr kk).1 2), .ref ((pr kk).1 3), .ref ((pr kk).1 4), .int (nI ((pr kk).1 13)), .int (nI ((pr kk).1 14)), .int ((pr kk).2.1 2)])), ((pr kk).1 0, aB E 16 ((pr kk).2.2.2 0)), ((pr kk).1 1, .inr (4, [.ref ((pr kk).1 5), .ref ((pr kk).1 6)])), ((pr kk).1 5, aI E 10 ((pr kk).2.2.2 1)), ((pr kk).1 6, aI E 10 ((pr kk).2.2.2 2)), ((pr kk).1 2, .inr (7, [.ref ((pr kk).1 7), .ref ((pr kk).1 8), .int (nI ((pr kk).1 15))])), ((pr kk).1 7, aI E 7 ((pr kk).2.2.2 3)), ((pr kk).1 8, aI E 7 ((pr kk).2.2.2 4)), ((pr kk).1 3, .inr (2, [.ref ((pr kk).1 9), .ref ((pr kk).1 10), .ref ((pr kk).1 11), .int (nI ((pr kk).1 16))])), ((pr kk).1 9, aI E 6 ((pr kk).2.2.2 5)), ((pr kk).1 10, aI E 6 ((pr kk).2.2.2 6)), ((pr kk).1 11, aZ E 6 ((pr kk).2.2.2 7)), ((pr kk).1 4, aI E 6 ((pr kk).2.2.2 8)), (cr, aR E 10 (fun j => (ci j).map ra))] ++ rowsW E N ra pr) s.heap := hR0
    have hltkk : kk < N := hci _ _ o4
    obtain ⟨o12kk, o13kk, o14kk, o15kk, o16kk, o17kk⟩ := hok kk (hci _ _ o4)
    refine lv_astore (lv' := [(4, .ref (ra kk)), (0, .ref c0), (1, .int (nI rl)), (2, .int x), (3, .int 4)]) hx hb dX0_search_5 hl (by decide) rfl (fun ls hl => ?_)
    refine lv_aload hx hb dX0_search_7 (lv_at hl 0 rfl) ?_
    refine lv_ifnull hx hb dX0_search_9 ?_
    refine lv_iload_n hx hb dX0_search_12 rfl (lv_at hl 4 rfl) ?_
    refine lv_bipush (v := 10) hx hb dX0_search_13 (by decide) ?_
    refine lv_icmp_lt (tgt := 20) hx hb dX0_search_15 (by decide) (fun c5 => ?_) (fun c5 => absurd (by decide) c5)
    refine lv_aload_n hx hb dX0_search_20 rfl (lv_at hl 1 rfl) ?_
    refine lv_dup hx hb dX0_search_21 rfl ?_
    refine va_get (D := E.1) (ci := 1) (v := .int sea) (C := RX0) (T := TX0) (N := 3) hx hb hts hiX0 hown hev.1 hP 0 rfl rfl 2 (by decide) hf21 (fun _ h9 => h9) rfl dX0_search_22 ?_
    refine lv_iconst (v := 1) hx hb dX0_search_25 (by decide) ?_
    refine lv_iload_n hx hb dX0_search_26 rfl (lv_at hl 2 rfl) ?_
    refine lv_ishl hx hb dX0_search_27 ?_
    refine lv_ior hx hb dX0_search_28 ?_
    refine lv_topi (fun v6 ev6 => ?_)
    refine va_put (D := E.1) (ci := 1) (v := .int v6) (ty := tyX0 2) (C := RX0) (T := TX0) (N := 3) hx hb hts hiX0 tyX0 tyX0_ok nmX0 hown hev.1 hP hD hS 0 rfl rfl 2 (by decide) hf21 (fun _ h9 => h9) rfl (tyX0_ok 2 (by decide)) rfl rfl (Nat.le_of_ble_eq_true rfl) dX0_search_29 (fun H locs hP hD hS => ?_)
    have hP : va_P E.1 vwCl [(c0, .inr (1, [.ref cr, .int rev, .int v6]))] H := hP
    have hD : va_D A [(c0, .inr (1, [.ref cr, .int rev, .int v6]))] := hD
    refine lv_aload hx hb dX0_search_32 (lv_at hl 0 rfl) ?_
    refine lv_iload_n hx hb dX0_search_34 rfl (lv_at hl 3 rfl) ?_
    have hP := hP.sub (ws' := [] ++ [(c0, .inr (1, [.ref cr, .int rev, .int v6]))]) [0] rfl
    have hD := hD.sub (ws' := [] ++ [(c0, .inr (1, [.ref cr, .int rev, .int v6]))]) [0] (by decide) rfl
    refine xci (va_runV (As := [.int x]) (rest := []) ⟨hx, hb, hml, hown, hts⟩ (kX4_hasPath l E (ra kk) ((pr kk).2.1 0) (nI ((pr kk).1 17)) ((pr kk).2.1 1) ((pr kk).2.2.1) ((pr kk).1 0) ((pr kk).1 12) ((pr kk).1 1) ((pr kk).1 2) ((pr kk).1 3) ((pr kk).1 4) ((pr kk).1 13) (nI ((pr kk).1 14)) ((pr kk).2.1 2) ((pr kk).2.2.2 8) x (by first | assumption | omega) H.size) (cwV 1 hts gX0_search_X4_hasPath rfl rfl rfl (by decide +kernel) ⟨Nat.le_of_ble_eq_true rfl, Nat.le_of_ble_eq_true rfl⟩) ⟨CP.blind, (va_recv hev.1 (xro hR0 hap hS) (ci := 5) (q0 := 0) rfl rfl), (xpre hev hz hA hP hD hS hR0 hap [1, 13] rfl)⟩ rfl rfl hl.1 rfl (lv_room (Nat.le_of_ble_eq_true rfl)) dX0_search_35 ⟨Nat.le_of_ble_eq_true rfl, Nat.le_of_ble_eq_true rfl⟩) hP hD hS hA (fun r7 w8 H locs h9 hP hD hS => ?_)
    obtain ⟨rfl, rfl, h9⟩ := h9
    try dsimp only at h9
    have hP : va_P E.1 vwCl [(c0, .inr (1, [.ref cr, .int rev, .int v6]))] H := hP
    have hD : va_D A [(c0, .inr (1, [.ref cr, .int rev, .int v6]))] := hD
    refine lv_if_eq (tgt := 43) hx hb dX0_search_38 (by decide) (fun c10 => ?_) (fun c10 => ?_)
    · skip
      have kc10 := b1_0.mp c10
      refine lv_aload_n hx hb dX0_search_43 rfl (lv_at hl 1 rfl) ?_
      refine lv_aload hx hb dX0_search_44 (lv_at hl 0 rfl) ?_
      refine va_getN (D := E.1) (ci := 5) (v := .ref ((pr kk).1 3)) (C := RX4) (T := TX4) (N := 13) hx hb hts hiX4 hown hev.1 (xro hR0 hap hS) 0 rfl rfl 8 (by decide) (xNF16 hev.2.1) (fun _ h9 => h9) rfl dX0_search_46 ?_
      refine lv_iload_n hx hb dX0_search_49 rfl (lv_at hl 3 rfl) ?_
      refine lv_iload_n hx hb dX0_search_50 rfl (lv_at hl 4 rfl) ?_
      have hP := hP.sub (ws' := [(c0, .inr (1, [.ref cr, .int rev, .int v6]))] ++ []) [0] rfl
      have hD := hD.sub (ws' := [(c0, .inr (1, [.ref cr, .int rev, .int v6]))] ++ []) [0] (by decide) rfl
      refine xci (va_runV (As := [.ref ((pr kk).1 3), .int x, .int 4]) (rest := []) ⟨hx, hb, hml, hown, hts⟩ (kX0_follow4 l E c0 cr rev v6 ci N ra pr kk x (by first | assumption | omega) (by first | assumption | omega) (by first | assumption | omega) (by first | assumption | omega) H.size) (cwV 3 hts gX0_search_X0_followDelegations rfl rfl rfl (by decide +kernel) ⟨Nat.le_of_ble_eq_true rfl, Nat.le_of_ble_eq_true rfl⟩) ⟨CP.blind, (va_recv hev.1 hP.left (ci := 1) (q0 := 0) rfl rfl), (xpreT (X := rowsW E N ra pr) hev hz hA hP hD hS hR0 hap [13] rfl (fun q9 h9 => List.mem_append_right _ h9))⟩ rfl rfl hl.1 rfl (lv_room (Nat.le_of_ble_eq_true rfl)) dX0_search_51 ⟨Nat.le_of_ble_eq_true rfl, Nat.le_of_ble_eq_true rfl⟩) hP hD hS hA (fun r11 w12 H locs h13 hP hD hS => ?_)
      obtain ⟨sea214, rfl, rfl, h13⟩ := h13
      try dsimp only at h13
      have hP : va_P E.1 vwCl [(c0, .inr (1, [.ref cr, .int rev, .int sea214]))] H := hP
      have hD : va_D A [(c0, .inr (1, [.ref cr, .int rev, .int sea214]))] := hD
      refine xri hx hb hr hlocks hP hD hS ⟨sea214, rfl, ?_, ?_⟩ dX0_search_54
      · rw [ev6]
        exact (congrArg Prod.fst (srF_go (m := sea) 5 o4 kc10)).symm
      · rw [ev6] at h13
        exact h13.trans (congrArg Prod.snd (srF_go (m := sea) 5 o4 kc10)).symm
    · skip
      have kc10 := b1_n.mp c10
      refine lv_iload_n hx hb dX0_search_41 rfl (lv_at hl 2 rfl) ?_
      refine xri hx hb hr hlocks hP hD hS ⟨v6, rfl, ?_, ?_⟩ dX0_search_42
      · exact (congrArg Prod.fst (srF_hit (m := sea) 5 o4 kc10)).symm
      · rw [ev6]
        exact (congrArg Prod.snd (srF_hit (m := sea) 5 o4 kc10)).symm

abbrev pX0_follow3 (E : xE) (c0 : Nat) (cr : Nat) (rev : Int32) (sea : Int32) (ci : Nat → Option Nat) (N : Nat) (ra : Nat → Nat) (pr : Nat → RowP) (k : Nat) (x : Int32) (r : Int32) (w : va_W) : Prop := ∃ (sea2 : Int32), w = [(c0, .inr (1, [.ref cr, .int rev, .int sea2]))] ∧ r = (folF (srF ci pr x 6) (pr k) x ((pr k).1 16) 0 sea).1 ∧ (sea2 = (folF (srF ci pr x 6) (pr k) x ((pr k).1 16) 0 sea).2)
set_option maxHeartbeats 4000000 in
set_option maxRecDepth 100000 in
theorem kX0_follow3 (l : Launch) (E : xE) (c0 : Nat) (cr : Nat) (rev : Int32) (sea : Int32) (ci : Nat → Option Nat) (N : Nat) (ra : Nat → Nat) (pr : Nat → RowP) (k : Nat) (x : Int32) (hk : k < N) (hok : ∀ i, i < N → rOk (pr i)) (hci : ∀ j i, ci j = some i → i < N) (hto : ∀ k, k < N → ∀ i, i < (pr k).1 16 → isN ((pr k).2.2.2 6 i) 10) : KT l yX0_followDelegations wsX0_followDelegations 15 371 0 0 E [(c0, .inr (1, [.ref cr, .int rev, .int sea]))] ([(cr, aR E 10 (fun j => (ci j).map ra))] ++ rowsW E N ra pr) [.ref c0, .ref ((pr k).1 3), .int x, .int 3] (QI E (pX0_follow3 E c0 cr rev sea ci N ra pr k x)) := by
  refine KT.start (cc := cX0_followDelegations) (maxL := 7) (ret := (some .int)) (by decide) rfl (Nat.le_of_ble_eq_true rfl) ?_
  intro p e s m below meth c A H hx hb hr hlocks hml hts hown hin hP hR0 hD hap hev hz hA hS ls hl
  have hl : lv_has ls 7 [(0, .ref c0), (1, .ref ((pr k).1 3)), (2, .int x), (3, .int 3)] := hl
  have hiX1 : ∀ w ∈ wsX10, w ∈ wsX0_followDelegations := by decide +kernel
  have hiniX7 := hts (.initialized RX7) (by decide +kernel)
  have hstX7_fits := hts (.static yX7_fits) (by decide +kernel)
  have hi9 := hk
  have hap := xmoreA (L := [(ra k, .inr (5, [.int ((pr k).2.1 0), .int (nI ((pr k).1 17)), .int ((pr k).2.1 1), .long ((pr k).2.2.1), .ref ((pr k).1 0), .int (nI ((pr k).1 12)), .ref ((pr k).1 1), .ref ((pr k).1 2), .ref ((pr k).1 3), .ref ((pr k).1 4), .int (nI ((pr k).1 13)), .int (nI ((pr k).1 14)), .int ((pr k).2.1 2)])), ((pr k).1 0, aB E 16 ((pr k).2.2.2 0)), ((pr k).1 1, .inr (4, [.ref ((pr k).1 5), .ref ((pr k).1 6)])), ((pr k).1 5, aI E 10 ((pr k).2.2.2 1)), ((pr k).1 6, aI E 10 ((pr k).2.2.2 2)), ((pr k).1 2, .inr (7, [.ref ((pr k).1 7), .ref ((pr k).1 8), .int (nI ((pr k).1 15))])), ((pr k).1 7, aI E 7 ((pr k).2.2.2 3)), ((pr k).1 8, aI E 7 ((pr k).2.2.2 4)), ((pr k).1 3, .inr (2, [.ref ((pr k).1 9), .ref ((pr k).1 10), .ref ((pr k).1 11), .int (nI ((pr k).1 16))])), ((pr k).1 9, aI E 6 ((pr k).2.2.2 5)), ((pr k).1 10, aI E 6 ((pr k).2.2.2 6)), ((pr k).1 11, aZ E 6 ((pr k).2.2.2 7)), ((pr k).1 4, aI E 6 ((pr k).2.2.2 8))]) hap (fun q9 h9 => List.mem_append_right _ (rowsW_mem (E := E) (ra := ra) (pr := pr) (hk) q9 h9))
  have hR0 := xmore (L := [(ra k, .inr (5, [.int ((pr k).2.1 0), .int (nI ((pr k).1 17)), .int ((pr k).2.1 1), .long ((pr k).2.2.1), .ref ((pr k).1 0), .int (nI ((pr k).1 12)), .ref ((pr k).1 1), .ref ((pr k).1 2), .ref ((pr k).1 3), .ref ((pr k).1 4), .int (nI ((pr k).1 13)), .int (nI ((pr k).1 14)), .int ((pr k).2.1 2)])), ((pr k).1 0, aB E 16 ((pr k).2.2.2 0)), ((pr k).1 1, .inr (4, [.ref ((pr k).1 5), .ref ((pr k).1 6)])), ((pr k).1 5, aI E 10 ((pr k).2.2.2 1)), ((pr k).1 6, aI E 10 ((pr k).2.2.2 2)), ((pr k).1 2, .inr (7, [.ref ((pr k).1 7), .ref ((pr k).1 8), .int (nI ((pr k).1 15))])), ((pr k).1 7, aI E 7 ((pr k).2.2.2 3)), ((pr k).1 8, aI E 7 ((pr k).2.2.2 4)), ((pr k).1 3, .inr (2, [.ref ((pr k).1 9), .ref ((pr k).1 10), .ref ((pr k).1 11), .int (nI ((pr k).1 16))])), ((pr k).1 9, aI E 6 ((pr k).2.2.2 5)), ((pr k).1 10, aI E 6 ((pr k).2.2.2 6)), ((pr k).1 11, aZ E 6 ((pr k).2.2.2 7)), ((pr k).1 4, aI E 6 ((pr k).2.2.2 8))]) hR0 (fun q9 h9 => List.mem_append_right _ (rowsW_mem (E := E) (ra := ra) (pr := pr) (hk) q9 h9))
  have hap : ∀ q ∈ ([(ra k, .inr (5, [.int ((pr k).2.1 0), .int (nI ((pr k).1 17)), .int ((pr k).2.1 1), .long ((pr k).2.2.1), .ref ((pr k).1 0), .int (nI ((pr k).1 12)), .ref ((pr k).1 1), .ref ((pr k).1 2), .ref ((pr k).1 3), .ref ((pr k).1 4), .int (nI ((pr k).1 13)), .int (nI ((pr k).1 14)), .int ((pr k).2.1 2)])), ((pr k).1 0, aB E 16 ((pr k).2.2.2 0)), ((pr k).1 1, .inr (4, [.ref ((pr k).1 5), .ref ((pr k).1 6)])), ((pr k).1 5, aI E 10 ((pr k).2.2.2 1)), ((pr k).1 6, aI E 10 ((pr k).2.2.2 2)), ((pr k).1 2, .inr (7, [.ref ((pr k).1 7), .ref ((pr k).1 8), .int (nI ((pr k).1 15))])), ((pr k).1 7, aI E 7 ((pr k).2.2.2 3)), ((pr k).1 8, aI E 7 ((pr k).2.2.2 4)), ((pr k).1 3, .inr (2, [.ref ((pr k).1 9), .ref ((pr k).1 10), .ref ((pr k).1 11), .int (nI ((pr k).1 16))])), ((pr k).1 9, aI E 6 ((pr k).2.2.2 5)), ((pr k).1 10, aI E 6 ((pr k).2.2.2 6)), ((pr k).1 11, aZ E 6 ((pr k).2.2.2 7)), ((pr k).1 4, aI E 6 ((pr k).2.2.2 8)), (cr, aR E 10 (fun j => (ci j).map ra))] ++ rowsW E N ra pr), ¬ A q.1 := hap
  have hR0 : va_P E.1 vwCl ([(ra k, .inr (5, [.int ((pr k).2.1 0), .int (nI ((pr k).1 17)), .int ((pr k).2.1 1), .long ((pr k).2.2.1), .ref ((pr k).1 0), .int (nI ((pr k).1 12)), .ref ((pr k).1 1), .ref ((pr k).1 2), .ref ((pr k).1 3), .ref ((pr k).1 4), .int (nI ((pr k).1 13)), .int (nI ((pr k).1 14)), .int ((pr k).2.1 2)])), ((pr k).1 0, aB E 16 ((pr k).2.2.2 0)), ((pr k).1 1, .inr (4, [.ref ((pr k).1 5), .ref ((pr k).1 6)])), ((pr k).1 5, aI E 10 ((pr k).2.2.2 1)), ((pr k).1 6, aI E 10 ((pr k).2.2.2 2)), ((pr k).1 2, .inr (7, [.ref ((pr k).1 7), .ref ((pr k).1 8), .int (nI ((pr k).1 15))])), ((pr k).1 7, aI E 7 ((pr k).2.2.2 3)), ((pr k).1 8, aI E 7 ((pr k).2.2.2 4)), ((pr k).1 3, .inr (2, [.ref ((pr k).1 9), .ref ((pr k).1 10), .ref ((pr k).1 11), .int (nI ((pr k).1 16))])), ((pr k).1 9, aI E 6 ((pr k).2.2.2 5)), ((pr k).1 10, aI E 6 ((pr k).2.2.2 6)), ((pr k).1 11, aZ E 6 ((pr k).2.2.2 7)), ((pr k).1 4, aI E 6 ((pr k).2.2.2 8)), (cr, aR E 10 (fun j => (ci j).map ra))] ++ rowsW E N ra pr) s.heap := hR0
  have hltk : k < N := hk
  obtain ⟨o12k, o13k, o14k, o15k, o16k, o17k⟩ := hok k (hk)
  refine lv_iconst (v := 0) hx hb dX0_followDelegations_0 (by decide) ?_
  refine lv_istore (lv' := [(4, .int 0), (0, .ref c0), (1, .ref ((pr k).1 3)), (2, .int x), (3, .int 3)]) hx hb dX0_followDelegations_1 hl (by decide) rfl (fun ls hl => ?_)
  have loop3 : ∀ (fz3 : Nat) (i : Nat) (m9 : Int32), (i ≤ (pr k).1 16) → (folF (srF ci pr x 6) (pr k) x ((pr k).1 16 - i) i m9 = folF (srF ci pr x 6) (pr k) x ((pr k).1 16) 0 sea) → ((pr k).1 16 - i < fz3) → ∀ (H : Heap) (locs : List Loc), va_P E.1 vwCl [(c0, .inr (1, [.ref cr, .int rev, .int m9]))] H → va_D A [(c0, .inr (1, [.ref cr, .int rev, .int m9]))] → va_S A s.heap H locs → ∀ ls : Array Slot, lv_has ls 7 [(4, .int (nI i)), (0, .ref c0), (1, .ref ((pr k).1 3)), (2, .int x), (3, .int 3)] → W p l e ({ frames := 15, cells := 0, slots := 0, locals := 371 } : Room) s m ([.ref c0, .ref ((pr k).1 3), .int x, .int 3] : List Value).toArray below meth c H locs 0 0 (MQ below (QI E (pX0_follow3 E c0 cr rev sea ci N ra pr k x) A) ([.ref c0, .ref ((pr k).1 3), .int x, .int 3] : List Value).toArray s 0 0 A) (F0 m 3 ls []) := by
    intro fz3
    induction fz3 with
    | zero =>
      intro i m9 hi he hfuel
      exact absurd hfuel (by omega)
    | succ fz3 ih3 =>
      intro i m9 hi he hfuel H locs hP hD hS ls hl
      refine lv_iload hx hb dX0_followDelegations_3 (lv_at hl 0 rfl) ?_
      refine lv_aload_n hx hb dX0_followDelegations_5 rfl (lv_at hl 2 rfl) ?_
      refine va_getN (D := E.1) (ci := 2) (v := .int (nI ((pr k).1 16))) (C := RX1) (T := TX1) (N := 4) hx hb hts hiX1 hown hev.1 (xro hR0 hap hS) 8 rfl rfl 3 (by decide) (xNF4 hev.2.1) (fun _ h9 => h9) rfl dX0_followDelegations_6 ?_
      refine lv_icmp_ge (tgt := 91) hx hb dX0_followDelegations_9 (by decide) (fun c1 => ?_) (fun c1 => ?_)
      · skip
        have kc1 : ((pr k).1 16) ≤ i := (nI_leI (a := ((pr k).1 16)) (b := i) (by omega) (by omega)).mp c1
        refine lv_iconst (v := (-1)) hx hb dX0_followDelegations_91 (by decide) ?_
        refine xri hx hb hr hlocks hP hD hS ⟨m9, rfl, ?_, ?_⟩ dX0_followDelegations_92
        · exact congrArg Prod.fst ((fo_end (by omega)).symm.trans he)
        · exact congrArg Prod.snd ((fo_end (by omega)).symm.trans he)
      · skip
        have kc1 : ¬ ((pr k).1 16) ≤ i := fun h9 => c1 ((nI_leI (a := ((pr k).1 16)) (b := i) (by omega) (by omega)).mpr h9)
        refine lv_aload_n hx hb dX0_followDelegations_12 rfl (lv_at hl 2 rfl) ?_
        refine va_getN (D := E.1) (ci := 2) (v := .ref ((pr k).1 9)) (C := RX1) (T := TX1) (N := 4) hx hb hts hiX1 hown hev.1 (xro hR0 hap hS) 8 rfl rfl 0 (by decide) (xNF1 hev.2.1) (fun _ h9 => h9) rfl dX0_followDelegations_13 ?_
        refine lv_iload hx hb dX0_followDelegations_16 (lv_at hl 0 rfl) ?_
        refine xiald (k := (i)) hx hb hev.1 (xro hR0 hap hS) 9 1 rfl rfl (by omega) (by decide) dX0_followDelegations_18 ?_
        refine lv_iload_n hx hb dX0_followDelegations_19 rfl (lv_at hl 3 rfl) ?_
        have hP := hP.sub (ws' := [] ++ [(c0, .inr (1, [.ref cr, .int rev, .int m9]))]) [0] rfl
        have hD := hD.sub (ws' := [] ++ [(c0, .inr (1, [.ref cr, .int rev, .int m9]))]) [0] (by decide) rfl
        refine xci (va_runSN (As := [.int (((pr k).2.2.2 5) i), .int x]) (rest := []) ⟨hx, hb, hml, hown, hts⟩ (kX7_fits l E (((pr k).2.2.2 5) i) x  H.size) ⟨va_cnB 2 hts gX0_followDelegations_X7_fits_n108 rfl rfl rfl (xNM6 hev.2.1) hiniX7 (by decide +kernel) ⟨Nat.le_of_ble_eq_true rfl, Nat.le_of_ble_eq_true rfl⟩, hstX7_fits, trivial⟩ ⟨CP.blind, (xpre hev hz hA hP hD hS hR0 hap [] rfl)⟩ rfl rfl hl.1 rfl (lv_room (Nat.le_of_ble_eq_true rfl)) dX0_followDelegations_20 ⟨Nat.le_of_ble_eq_true rfl, Nat.le_of_ble_eq_true rfl⟩) hP hD hS hA (fun r2 w3 H locs h4 hP hD hS => ?_)
        obtain ⟨rfl, rfl, h4⟩ := h4
        try dsimp only at h4
        have hP : va_P E.1 vwCl [(c0, .inr (1, [.ref cr, .int rev, .int m9]))] H := hP
        have hD : va_D A [(c0, .inr (1, [.ref cr, .int rev, .int m9]))] := hD
        refine lv_if_ne (tgt := 29) hx hb dX0_followDelegations_23 (by decide) (fun c5 => ?_) (fun c5 => ?_)
        · skip
          have kc5 := b1_n.mp c5
          refine lv_aload_n hx hb dX0_followDelegations_29 rfl (lv_at hl 2 rfl) ?_
          refine va_getN (D := E.1) (ci := 2) (v := .ref ((pr k).1 10)) (C := RX1) (T := TX1) (N := 4) hx hb hts hiX1 hown hev.1 (xro hR0 hap hS) 8 rfl rfl 1 (by decide) (xNF2 hev.2.1) (fun _ h9 => h9) rfl dX0_followDelegations_30 ?_
          refine lv_iload hx hb dX0_followDelegations_33 (lv_at hl 0 rfl) ?_
          refine xiald (k := (i)) hx hb hev.1 (xro hR0 hap hS) 10 1 rfl rfl (by omega) (by decide) dX0_followDelegations_35 ?_
          obtain ⟨to6, hto6, eto⟩ := hto k hk i (by omega)
          refine xtop (y := nI to6) (eto) ?_
          refine lv_istore (lv' := [(5, .int (nI to6)), (4, .int (nI i)), (0, .ref c0), (1, .ref ((pr k).1 3)), (2, .int x), (3, .int 3)]) hx hb dX0_followDelegations_36 hl (by decide) rfl (fun ls hl => ?_)
          refine lv_aload_n hx hb dX0_followDelegations_38 rfl (lv_at hl 2 rfl) ?_
          refine lv_iload hx hb dX0_followDelegations_39 (lv_at hl 0 rfl) ?_
          have hP := hP.sub (ws' := [] ++ [(c0, .inr (1, [.ref cr, .int rev, .int m9]))]) [0] rfl
          have hD := hD.sub (ws' := [] ++ [(c0, .inr (1, [.ref cr, .int rev, .int m9]))]) [0] (by decide) rfl
          refine xci (va_runV (As := [.int (nI to6)]) (rest := []) ⟨hx, hb, hml, hown, hts⟩ (kX0_isSearched l E c0 cr rev m9 (nI to6)  H.size) (cwV 1 hts gX0_followDelegations_X0_isSearched rfl rfl rfl (by decide +kernel) ⟨Nat.le_of_ble_eq_true rfl, Nat.le_of_ble_eq_true rfl⟩) ⟨CP.blind, (va_recv hev.1 hP (ci := 1) (q0 := 0) rfl rfl), (xpre hev hz hA hP hD hS hR0 hap [0] rfl)⟩ rfl rfl hl.1 rfl (lv_room (Nat.le_of_ble_eq_true rfl)) dX0_followDelegations_41 ⟨Nat.le_of_ble_eq_true rfl, Nat.le_of_ble_eq_true rfl⟩) hP hD hS hA (fun r7 w8 H locs h9 hP hD hS => ?_)
          obtain ⟨rfl, rfl, h9⟩ := h9
          try dsimp only at h9
          have hP : va_P E.1 vwCl [(c0, .inr (1, [.ref cr, .int rev, .int m9]))] H := hP
          have hD : va_D A [(c0, .inr (1, [.ref cr, .int rev, .int m9]))] := hD
          refine lv_if_eq (tgt := 51) hx hb dX0_followDelegations_44 (by decide) (fun c10 => ?_) (fun c10 => ?_)
          · skip
            have kc10 := b1_0.mp c10
            refine lv_aload_n hx hb dX0_followDelegations_51 rfl (lv_at hl 2 rfl) ?_
            refine lv_iload hx hb dX0_followDelegations_52 (lv_at hl 0 rfl) ?_
            refine lv_iload_n hx hb dX0_followDelegations_54 rfl (lv_at hl 4 rfl) ?_
            refine lv_iload_n hx hb dX0_followDelegations_55 rfl (lv_at hl 5 rfl) ?_
            refine lv_iconst (v := 1) hx hb dX0_followDelegations_56 (by decide) ?_
            refine lv_iadd hx hb dX0_followDelegations_57 ?_
            refine xtop (y := 4) (by decide) ?_
            have hP := hP.sub (ws' := [(c0, .inr (1, [.ref cr, .int rev, .int m9]))] ++ []) [0] rfl
            have hD := hD.sub (ws' := [(c0, .inr (1, [.ref cr, .int rev, .int m9]))] ++ []) [0] (by decide) rfl
            refine xci (va_runV (As := [.int (nI to6), .int x, .int 4]) (rest := []) ⟨hx, hb, hml, hown, hts⟩ (kX0_search4 l E c0 cr rev m9 ci N ra pr to6 x (by first | assumption | omega) (by first | assumption | omega) (by first | assumption | omega) (by first | assumption | omega) H.size) (cwV 3 hts gX0_followDelegations_X0_search rfl rfl rfl (by decide +kernel) ⟨Nat.le_of_ble_eq_true rfl, Nat.le_of_ble_eq_true rfl⟩) ⟨CP.blind, (va_recv hev.1 hP.left (ci := 1) (q0 := 0) rfl rfl), (xpreT (X := rowsW E N ra pr) hev hz hA hP hD hS hR0 hap [13] rfl (fun q9 h9 => List.mem_append_right _ h9))⟩ rfl rfl hl.1 rfl (lv_room (Nat.le_of_ble_eq_true rfl)) dX0_followDelegations_58 ⟨Nat.le_of_ble_eq_true rfl, Nat.le_of_ble_eq_true rfl⟩) hP hD hS hA (fun r11 w12 H locs h13 hP hD hS => ?_)
            obtain ⟨sea214, rfl, rfl, h13⟩ := h13
            try dsimp only at h13
            have hP : va_P E.1 vwCl [(c0, .inr (1, [.ref cr, .int rev, .int sea214]))] H := hP
            have hD : va_D A [(c0, .inr (1, [.ref cr, .int rev, .int sea214]))] := hD
            refine lv_istore (lv' := [(6, .int ((srF ci pr x 6 to6 m9).1)), (5, .int (nI to6)), (4, .int (nI i)), (0, .ref c0), (1, .ref ((pr k).1 3)), (2, .int x), (3, .int 3)]) hx hb dX0_followDelegations_61 hl (by decide) rfl (fun ls hl => ?_)
            refine lv_iload hx hb dX0_followDelegations_63 (lv_at hl 0 rfl) ?_
            refine lv_iconst (v := (-1)) hx hb dX0_followDelegations_65 (by decide) ?_
            refine lv_icmp_eq (tgt := 72) hx hb dX0_followDelegations_66 (by decide) (fun c15 => ?_) (fun c15 => ?_)
            · skip
              refine lv_aload_n hx hb dX0_followDelegations_72 rfl (lv_at hl 4 rfl) ?_
              refine va_getN (D := E.1) (ci := 2) (v := .ref ((pr k).1 11)) (C := RX1) (T := TX1) (N := 4) hx hb hts hiX1 hown hev.1 (xro hR0 hap hS) 8 rfl rfl 2 (by decide) (xNF3 hev.2.1) (fun _ h9 => h9) rfl dX0_followDelegations_73 ?_
              refine lv_iload hx hb dX0_followDelegations_76 (lv_at hl 2 rfl) ?_
              refine xzald (k := (i)) hx hb hev.1 (xro hR0 hap hS) 11 3 rfl rfl (by omega) (by decide) dX0_followDelegations_78 ?_
              refine lv_if_eq (tgt := 85) hx hb dX0_followDelegations_79 (by decide) (fun c16 => ?_) (fun c16 => ?_)
              · skip
                refine lv_iinc (v := nI (i + 1)) (lv' := [(4, .int (nI (i + 1))), (6, .int ((srF ci pr x 6 to6 m9).1)), (5, .int (nI to6)), (0, .ref c0), (1, .ref ((pr k).1 3)), (2, .int x), (3, .int 3)]) hx hb dX0_followDelegations_85 hl (k := 2) rfl ((nI_add i 1).trans (congrArg nI (by omega))) (by decide) rfl (fun ls hl => ?_)
                refine lv_goto (tgt := 3) hx hb dX0_followDelegations_88 (by decide) ?_
                exact ih3  (i + 1) sea214 (by omega) (((fo_next (a := (srF ci pr x 6 to6 m9)) (by omega) kc5 (by rw [eto]; exact nI_clamp (by omega)) (pk2_f kc10) c15 c16).trans (by rw [← h13])).symm.trans he) (by omega) _ _ hP hD hS ls (lv_sub hl [0, 3, 4, 5, 6] rfl)
              · skip
                refine lv_bipush (v := (-2)) hx hb dX0_followDelegations_82 (by decide) ?_
                refine xri hx hb hr hlocks hP hD hS ⟨sea214, rfl, ?_, ?_⟩ dX0_followDelegations_84
                · exact congrArg Prod.fst ((fo_over (a := (srF ci pr x 6 to6 m9)) (by omega) kc5 (by rw [eto]; exact nI_clamp (by omega)) (pk2_f kc10) c15 c16).symm.trans he)
                · have q9 := congrArg Prod.snd ((fo_over (a := (srF ci pr x 6 to6 m9)) (by omega) kc5 (by rw [eto]; exact nI_clamp (by omega)) (pk2_f kc10) c15 c16).symm.trans he)
                  exact h13.trans q9
            · skip
              refine lv_iload hx hb dX0_followDelegations_69 (lv_at hl 0 rfl) ?_
              refine xri hx hb hr hlocks hP hD hS ⟨sea214, rfl, ?_, ?_⟩ dX0_followDelegations_71
              · exact (congrArg Prod.fst ((fo_hit (a := (srF ci pr x 6 to6 m9)) (by omega) kc5 (by rw [eto]; exact nI_clamp (by omega)) (pk2_f kc10) c15).symm.trans he))
              · exact h13.trans (congrArg Prod.snd ((fo_hit (a := (srF ci pr x 6 to6 m9)) (by omega) kc5 (by rw [eto]; exact nI_clamp (by omega)) (pk2_f kc10) c15).symm.trans he))
          · skip
            have kc10 := b1_n.mp c10
            refine lv_iconst (v := (-1)) hx hb dX0_followDelegations_47 (by decide) ?_
            refine lv_goto (tgt := 61) hx hb dX0_followDelegations_48 (by decide) ?_
            refine lv_istore (lv' := [(6, .int (-1)), (5, .int (nI to6)), (4, .int (nI i)), (0, .ref c0), (1, .ref ((pr k).1 3)), (2, .int x), (3, .int 3)]) hx hb dX0_followDelegations_61 hl (by decide) rfl (fun ls hl => ?_)
            refine lv_iload hx hb dX0_followDelegations_63 (lv_at hl 0 rfl) ?_
            refine lv_iconst (v := (-1)) hx hb dX0_followDelegations_65 (by decide) ?_
            refine lv_icmp_eq (tgt := 72) hx hb dX0_followDelegations_66 (by decide) (fun c17 => ?_) (fun c17 => absurd (by decide) c17)
            refine lv_aload_n hx hb dX0_followDelegations_72 rfl (lv_at hl 4 rfl) ?_
            refine va_getN (D := E.1) (ci := 2) (v := .ref ((pr k).1 11)) (C := RX1) (T := TX1) (N := 4) hx hb hts hiX1 hown hev.1 (xro hR0 hap hS) 8 rfl rfl 2 (by decide) (xNF3 hev.2.1) (fun _ h9 => h9) rfl dX0_followDelegations_73 ?_
            refine lv_iload hx hb dX0_followDelegations_76 (lv_at hl 2 rfl) ?_
            refine xzald (k := (i)) hx hb hev.1 (xro hR0 hap hS) 11 3 rfl rfl (by omega) (by decide) dX0_followDelegations_78 ?_
            refine lv_if_eq (tgt := 85) hx hb dX0_followDelegations_79 (by decide) (fun c18 => ?_) (fun c18 => ?_)
            · skip
              refine lv_iinc (v := nI (i + 1)) (lv' := [(4, .int (nI (i + 1))), (6, .int (-1)), (5, .int (nI to6)), (0, .ref c0), (1, .ref ((pr k).1 3)), (2, .int x), (3, .int 3)]) hx hb dX0_followDelegations_85 hl (k := 2) rfl ((nI_add i 1).trans (congrArg nI (by omega))) (by decide) rfl (fun ls hl => ?_)
              refine lv_goto (tgt := 3) hx hb dX0_followDelegations_88 (by decide) ?_
              exact ih3  (i + 1) m9 (by omega) ((fo_next (a := (-1, m9)) (by omega) kc5 (by rw [eto]; exact nI_clamp (by omega)) (pk2_t kc10) rfl c18).symm.trans he) (by omega) _ _ hP hD hS ls (lv_sub hl [0, 3, 4, 5, 6] rfl)
            · skip
              refine lv_bipush (v := (-2)) hx hb dX0_followDelegations_82 (by decide) ?_
              refine xri hx hb hr hlocks hP hD hS ⟨m9, rfl, ?_, ?_⟩ dX0_followDelegations_84
              · exact congrArg Prod.fst ((fo_over (a := (-1, m9)) (by omega) kc5 (by rw [eto]; exact nI_clamp (by omega)) (pk2_t kc10) rfl c18).symm.trans he)
              · exact congrArg Prod.snd ((fo_over (a := (-1, m9)) (by omega) kc5 (by rw [eto]; exact nI_clamp (by omega)) (pk2_t kc10) rfl c18).symm.trans he)
        · skip
          have kc5 := b1_0.mp c5
          refine lv_goto (tgt := 85) hx hb dX0_followDelegations_26 (by decide) ?_
          refine lv_iinc (v := nI (i + 1)) (lv' := [(4, .int (nI (i + 1))), (0, .ref c0), (1, .ref ((pr k).1 3)), (2, .int x), (3, .int 3)]) hx hb dX0_followDelegations_85 hl (k := 0) rfl ((nI_add i 1).trans (congrArg nI (by omega))) (by decide) rfl (fun ls hl => ?_)
          refine lv_goto (tgt := 3) hx hb dX0_followDelegations_88 (by decide) ?_
          exact ih3  (i + 1) m9 (by omega) ((fo_skip (by omega) kc5).symm.trans he) (by omega) _ _ hP hD hS ls (lv_sub hl [0, 1, 2, 3, 4] rfl)
  exact loop3 ((pr k).1 16 + 1) 0 sea (by omega) (rfl) (by omega) _ _ hP hD hS ls (lv_sub hl [0, 1, 2, 3, 4] rfl)

abbrev pX0_search3 (E : xE) (c0 : Nat) (cr : Nat) (rev : Int32) (sea : Int32) (ci : Nat → Option Nat) (N : Nat) (ra : Nat → Nat) (pr : Nat → RowP) (rl : Nat) (x : Int32) (r : Int32) (w : va_W) : Prop := ∃ (sea2 : Int32), w = [(c0, .inr (1, [.ref cr, .int rev, .int sea2]))] ∧ r = (srF ci pr x 7 rl sea).1 ∧ (sea2 = (srF ci pr x 7 rl sea).2)
set_option maxHeartbeats 4000000 in
set_option maxRecDepth 100000 in
theorem kX0_search3 (l : Launch) (E : xE) (c0 : Nat) (cr : Nat) (rev : Int32) (sea : Int32) (ci : Nat → Option Nat) (N : Nat) (ra : Nat → Nat) (pr : Nat → RowP) (rl : Nat) (x : Int32) (hrl : rl < 10) (hok : ∀ i, i < N → rOk (pr i)) (hci : ∀ j i, ci j = some i → i < N) (hto : ∀ k, k < N → ∀ i, i < (pr k).1 16 → isN ((pr k).2.2.2 6 i) 10) : KT l yX0_search wsX0_search 16 397 0 0 E [(c0, .inr (1, [.ref cr, .int rev, .int sea]))] ([(cr, aR E 10 (fun j => (ci j).map ra))] ++ rowsW E N ra pr) [.ref c0, .int (nI rl), .int x, .int 3] (QI E (pX0_search3 E c0 cr rev sea ci N ra pr rl x)) := by
  refine KT.start (cc := cX0_search) (maxL := 5) (ret := (some .int)) (by decide) rfl (Nat.le_of_ble_eq_true rfl) ?_
  intro p e s m below meth c A H hx hb hr hlocks hml hts hown hin hP hR0 hD hap hev hz hA hS ls hl
  have hl : lv_has ls 5 [(0, .ref c0), (1, .int (nI rl)), (2, .int x), (3, .int 3)] := hl
  have hiX0 : ∀ w ∈ wsX00, w ∈ wsX0_search := by decide +kernel
  have hiX4 : ∀ w ∈ wsX40, w ∈ wsX0_search := by decide +kernel
  have hf21 := hts (.fieldLink RX0 21 "SignQuorum$Client" "searchedRoles" "I") (by decide +kernel)
  refine lv_aload_n hx hb dX0_search_0 rfl (lv_at hl 0 rfl) ?_
  refine lv_iload_n hx hb dX0_search_1 rfl (lv_at hl 1 rfl) ?_
  have hP := hP.sub (ws' := [] ++ [(c0, .inr (1, [.ref cr, .int rev, .int sea]))]) [0] rfl
  have hD := hD.sub (ws' := [] ++ [(c0, .inr (1, [.ref cr, .int rev, .int sea]))]) [0] (by decide) rfl
  refine xcr (va_runV (As := [.int (nI rl)]) (rest := []) ⟨hx, hb, hml, hown, hts⟩ (kX0_currentOfJ l E c0 cr rev sea ci ra rl (by first | assumption | omega) H.size) (cwV 1 hts gX0_search_X0_currentOf rfl rfl rfl (by decide +kernel) ⟨Nat.le_of_ble_eq_true rfl, Nat.le_of_ble_eq_true rfl⟩) ⟨CP.blind, (va_recv hev.1 hP (ci := 1) (q0 := 0) rfl rfl), (xpre hev hz hA hP hD hS hR0 hap [0, 1] rfl)⟩ rfl rfl hl.1 rfl (lv_room (Nat.le_of_ble_eq_true rfl)) dX0_search_2 ⟨Nat.le_of_ble_eq_true rfl, Nat.le_of_ble_eq_true rfl⟩) hP hD hS hA (fun r1 w2 H locs h3 hP hD hS => ?_)
  obtain ⟨rfl, rfl, h3⟩ := h3
  try dsimp only at h3
  have hP : va_P E.1 vwCl [(c0, .inr (1, [.ref cr, .int rev, .int sea]))] H := hP
  have hD : va_D A [(c0, .inr (1, [.ref cr, .int rev, .int sea]))] := hD
  cases o4 : ci rl with
  | none =>
    refine lv_astoreN (lv' := [(4, .null), (0, .ref c0), (1, .int (nI rl)), (2, .int x), (3, .int 3)]) hx hb dX0_search_5 hl (by decide) rfl (fun ls hl => ?_)
    refine lv_aloadN hx hb dX0_search_7 (lv_at hl 0 rfl) ?_
    refine lv_ifnullN (tgt := 18) hx hb dX0_search_9 (by decide) ?_
    refine lv_iconst (v := (-1)) hx hb dX0_search_18 (by decide) ?_
    refine xri hx hb hr hlocks hP hD hS ⟨sea, rfl, ?_, ?_⟩ dX0_search_19
    · exact (congrArg Prod.fst (srF_none o4 7)).symm
    · exact (congrArg Prod.snd (srF_none o4 7)).symm
  | some kk =>
    have hap := xmoreA (L := [(ra kk, .inr (5, [.int ((pr kk).2.1 0), .int (nI ((pr kk).1 17)), .int ((pr kk).2.1 1), .long ((pr kk).2.2.1), .ref ((pr kk).1 0), .int (nI ((pr kk).1 12)), .ref ((pr kk).1 1), .ref ((pr kk).1 2), .ref ((pr kk).1 3), .ref ((pr kk).1 4), .int (nI ((pr kk).1 13)), .int (nI ((pr kk).1 14)), .int ((pr kk).2.1 2)])), ((pr kk).1 0, aB E 16 ((pr kk).2.2.2 0)), ((pr kk).1 1, .inr (4, [.ref ((pr kk).1 5), .ref ((pr kk).1 6)])), ((pr kk).1 5, aI E 10 ((pr kk).2.2.2 1)), ((pr kk).1 6, aI E 10 ((pr kk).2.2.2 2)), ((pr kk).1 2, .inr (7, [.ref ((pr kk).1 7), .ref ((pr kk).1 8), .int (nI ((pr kk).1 15))])), ((pr kk).1 7, aI E 7 ((pr kk).2.2.2 3)), ((pr kk).1 8, aI E 7 ((pr kk).2.2.2 4)), ((pr kk).1 3, .inr (2, [.ref ((pr kk).1 9), .ref ((pr kk).1 10), .ref ((pr kk).1 11), .int (nI ((pr kk).1 16))])), ((pr kk).1 9, aI E 6 ((pr kk).2.2.2 5)), ((pr kk).1 10, aI E 6 ((pr kk).2.2.2 6)), ((pr kk).1 11, aZ E 6 ((pr kk).2.2.2 7)), ((pr kk).1 4, aI E 6 ((pr kk).2.2.2 8))]) hap (fun q9 h9 => List.mem_append_right _ (rowsW_mem (E := E) (ra := ra) (pr := pr) (hci _ _ o4) q9 h9))
    have hR0 := xmore (L := [(ra kk, .inr (5, [.int ((pr kk).2.1 0), .int (nI ((pr kk).1 17)), .int ((pr kk).2.1 1), .long ((pr kk).2.2.1), .ref ((pr kk).1 0), .int (nI ((pr kk).1 12)), .ref ((pr kk).1 1), .ref ((pr kk).1 2), .ref ((pr kk).1 3), .ref ((pr kk).1 4), .int (nI ((pr kk).1 13)), .int (nI ((pr kk).1 14)), .int ((pr kk).2.1 2)])), ((pr kk).1 0, aB E 16 ((pr kk).2.2.2 0)), ((pr kk).1 1, .inr (4, [.ref ((pr kk).1 5), .ref ((pr kk).1 6)])), ((pr kk).1 5, aI E 10 ((pr kk).2.2.2 1)), ((pr kk).1 6, aI E 10 ((pr kk).2.2.2 2)), ((pr kk).1 2, .inr (7, [.ref ((pr kk).1 7), .ref ((pr kk).1 8), .int (nI ((pr kk).1 15))])), ((pr kk).1 7, aI E 7 ((pr kk).2.2.2 3)), ((pr kk).1 8, aI E 7 ((pr kk).2.2.2 4)), ((pr kk).1 3, .inr (2, [.ref ((pr kk).1 9), .ref ((pr kk).1 10), .ref ((pr kk).1 11), .int (nI ((pr kk).1 16))])), ((pr kk).1 9, aI E 6 ((pr kk).2.2.2 5)), ((pr kk).1 10, aI E 6 ((pr kk).2.2.2 6)), ((pr kk).1 11, aZ E 6 ((pr kk).2.2.2 7)), ((pr kk).1 4, aI E 6 ((pr kk).2.2.2 8))]) hR0 (fun q9 h9 => List.mem_append_right _ (rowsW_mem (E := E) (ra := ra) (pr := pr) (hci _ _ o4) q9 h9))
    have hap : ∀ q ∈ ([(ra kk, .inr (5, [.int ((pr kk).2.1 0), .int (nI ((pr kk).1 17)), .int ((pr kk).2.1 1), .long ((pr kk).2.2.1), .ref ((pr kk).1 0), .int (nI ((pr kk).1 12)), .ref ((pr kk).1 1), .ref ((pr kk).1 2), .ref ((pr kk).1 3), .ref ((pr kk).1 4), .int (nI ((pr kk).1 13)), .int (nI ((pr kk).1 14)), .int ((pr kk).2.1 2)])), ((pr kk).1 0, aB E 16 ((pr kk).2.2.2 0)), ((pr kk).1 1, .inr (4, [.ref ((pr kk).1 5), .ref ((pr kk).1 6)])), ((pr kk).1 5, aI E 10 ((pr kk).2.2.2 1)), ((pr kk).1 6, aI E 10 ((pr kk).2.2.2 2)), ((pr kk).1 2, .inr (7, [.ref ((pr kk).1 7), .ref ((pr kk).1 8), .int (nI ((pr kk).1 15))])), ((pr kk).1 7, aI E 7 ((pr kk).2.2.2 3)), ((pr kk).1 8, aI E 7 ((pr kk).2.2.2 4)), ((pr kk).1 3, .inr (2, [.ref ((pr kk).1 9), .ref ((pr kk).1 10), .ref ((pr kk).1 11), .int (nI ((pr kk).1 16))])), ((pr kk).1 9, aI E 6 ((pr kk).2.2.2 5)), ((pr kk).1 10, aI E 6 ((pr kk).2.2.2 6)), ((pr kk).1 11, aZ E 6 ((pr kk).2.2.2 7)), ((pr kk).1 4, aI E 6 ((pr kk).2.2.2 8)), (cr, aR E 10 (fun j => (ci j).map ra))] ++ rowsW E N ra pr), ¬ A q.1 := hap
    have hR0 : va_P E.1 vwCl ([(ra kk, .inr (5, [.int ((pr kk).2.1 0), .int (nI ((pr kk).1 17)), .int ((pr kk).2.1 1), .long ((pr kk).2.2.1), .ref ((pr kk).1 0), .int (nI ((pr kk).1 12)), .ref ((pr kk).1 1), .ref ((pr kk).1 2), .ref ((pr kk).1 3), .ref ((pr kk).1 4), .int (nI ((pr kk).1 13)), .int (nI ((pr kk).1 14)), .int ((pr kk).2.1 2)])), ((pr kk).1 0, aB E 16 ((pr kk).2.2.2 0)), ((pr kk).1 1, .inr (4, [.ref ((pr kk).1 5), .ref ((pr kk).1 6)])), ((pr kk).1 5, aI E 10 ((pr kk).2.2.2 1)), ((pr kk).1 6, aI E 10 ((pr kk).2.2.2 2)), ((pr kk).1 2, .inr (7, [.ref ((pr kk).1 7), .ref ((pr kk).1 8), .int (nI ((pr kk).1 15))])), ((pr kk).1 7, aI E 7 ((pr kk).2.2.2 3)), ((pr kk).1 8, aI E 7 ((pr kk).2.2.2 4)), ((pr kk).1 3, .inr (2, [.ref ((pr kk).1 9), .ref ((pr kk).1 10), .ref ((pr kk).1 11), .int (nI ((pr kk).1 16))])), ((pr kk).1 9, aI E 6 ((pr kk).2.2.2 5)), ((pr kk).1 10, aI E 6 ((pr kk).2.2.2 6)), ((pr kk).1 11, aZ E 6 ((pr kk).2.2.2 7)), ((pr kk).1 4, aI E 6 ((pr kk).2.2.2 8)), (cr, aR E 10 (fun j => (ci j).map ra))] ++ rowsW E N ra pr) s.heap := hR0
    have hltkk : kk < N := hci _ _ o4
    obtain ⟨o12kk, o13kk, o14kk, o15kk, o16kk, o17kk⟩ := hok kk (hci _ _ o4)
    refine lv_astore (lv' := [(4, .ref (ra kk)), (0, .ref c0), (1, .int (nI rl)), (2, .int x), (3, .int 3)]) hx hb dX0_search_5 hl (by decide) rfl (fun ls hl => ?_)
    refine lv_aload hx hb dX0_search_7 (lv_at hl 0 rfl) ?_
    refine lv_ifnull hx hb dX0_search_9 ?_
    refine lv_iload_n hx hb dX0_search_12 rfl (lv_at hl 4 rfl) ?_
    refine lv_bipush (v := 10) hx hb dX0_search_13 (by decide) ?_
    refine lv_icmp_lt (tgt := 20) hx hb dX0_search_15 (by decide) (fun c5 => ?_) (fun c5 => absurd (by decide) c5)
    refine lv_aload_n hx hb dX0_search_20 rfl (lv_at hl 1 rfl) ?_
    refine lv_dup hx hb dX0_search_21 rfl ?_
    refine va_get (D := E.1) (ci := 1) (v := .int sea) (C := RX0) (T := TX0) (N := 3) hx hb hts hiX0 hown hev.1 hP 0 rfl rfl 2 (by decide) hf21 (fun _ h9 => h9) rfl dX0_search_22 ?_
    refine lv_iconst (v := 1) hx hb dX0_search_25 (by decide) ?_
    refine lv_iload_n hx hb dX0_search_26 rfl (lv_at hl 2 rfl) ?_
    refine lv_ishl hx hb dX0_search_27 ?_
    refine lv_ior hx hb dX0_search_28 ?_
    refine lv_topi (fun v6 ev6 => ?_)
    refine va_put (D := E.1) (ci := 1) (v := .int v6) (ty := tyX0 2) (C := RX0) (T := TX0) (N := 3) hx hb hts hiX0 tyX0 tyX0_ok nmX0 hown hev.1 hP hD hS 0 rfl rfl 2 (by decide) hf21 (fun _ h9 => h9) rfl (tyX0_ok 2 (by decide)) rfl rfl (Nat.le_of_ble_eq_true rfl) dX0_search_29 (fun H locs hP hD hS => ?_)
    have hP : va_P E.1 vwCl [(c0, .inr (1, [.ref cr, .int rev, .int v6]))] H := hP
    have hD : va_D A [(c0, .inr (1, [.ref cr, .int rev, .int v6]))] := hD
    refine lv_aload hx hb dX0_search_32 (lv_at hl 0 rfl) ?_
    refine lv_iload_n hx hb dX0_search_34 rfl (lv_at hl 3 rfl) ?_
    have hP := hP.sub (ws' := [] ++ [(c0, .inr (1, [.ref cr, .int rev, .int v6]))]) [0] rfl
    have hD := hD.sub (ws' := [] ++ [(c0, .inr (1, [.ref cr, .int rev, .int v6]))]) [0] (by decide) rfl
    refine xci (va_runV (As := [.int x]) (rest := []) ⟨hx, hb, hml, hown, hts⟩ (kX4_hasPath l E (ra kk) ((pr kk).2.1 0) (nI ((pr kk).1 17)) ((pr kk).2.1 1) ((pr kk).2.2.1) ((pr kk).1 0) ((pr kk).1 12) ((pr kk).1 1) ((pr kk).1 2) ((pr kk).1 3) ((pr kk).1 4) ((pr kk).1 13) (nI ((pr kk).1 14)) ((pr kk).2.1 2) ((pr kk).2.2.2 8) x (by first | assumption | omega) H.size) (cwV 1 hts gX0_search_X4_hasPath rfl rfl rfl (by decide +kernel) ⟨Nat.le_of_ble_eq_true rfl, Nat.le_of_ble_eq_true rfl⟩) ⟨CP.blind, (va_recv hev.1 (xro hR0 hap hS) (ci := 5) (q0 := 0) rfl rfl), (xpre hev hz hA hP hD hS hR0 hap [1, 13] rfl)⟩ rfl rfl hl.1 rfl (lv_room (Nat.le_of_ble_eq_true rfl)) dX0_search_35 ⟨Nat.le_of_ble_eq_true rfl, Nat.le_of_ble_eq_true rfl⟩) hP hD hS hA (fun r7 w8 H locs h9 hP hD hS => ?_)
    obtain ⟨rfl, rfl, h9⟩ := h9
    try dsimp only at h9
    have hP : va_P E.1 vwCl [(c0, .inr (1, [.ref cr, .int rev, .int v6]))] H := hP
    have hD : va_D A [(c0, .inr (1, [.ref cr, .int rev, .int v6]))] := hD
    refine lv_if_eq (tgt := 43) hx hb dX0_search_38 (by decide) (fun c10 => ?_) (fun c10 => ?_)
    · skip
      have kc10 := b1_0.mp c10
      refine lv_aload_n hx hb dX0_search_43 rfl (lv_at hl 1 rfl) ?_
      refine lv_aload hx hb dX0_search_44 (lv_at hl 0 rfl) ?_
      refine va_getN (D := E.1) (ci := 5) (v := .ref ((pr kk).1 3)) (C := RX4) (T := TX4) (N := 13) hx hb hts hiX4 hown hev.1 (xro hR0 hap hS) 0 rfl rfl 8 (by decide) (xNF16 hev.2.1) (fun _ h9 => h9) rfl dX0_search_46 ?_
      refine lv_iload_n hx hb dX0_search_49 rfl (lv_at hl 3 rfl) ?_
      refine lv_iload_n hx hb dX0_search_50 rfl (lv_at hl 4 rfl) ?_
      have hP := hP.sub (ws' := [(c0, .inr (1, [.ref cr, .int rev, .int v6]))] ++ []) [0] rfl
      have hD := hD.sub (ws' := [(c0, .inr (1, [.ref cr, .int rev, .int v6]))] ++ []) [0] (by decide) rfl
      refine xci (va_runV (As := [.ref ((pr kk).1 3), .int x, .int 3]) (rest := []) ⟨hx, hb, hml, hown, hts⟩ (kX0_follow3 l E c0 cr rev v6 ci N ra pr kk x (by first | assumption | omega) (by first | assumption | omega) (by first | assumption | omega) (by first | assumption | omega) H.size) (cwV 3 hts gX0_search_X0_followDelegations rfl rfl rfl (by decide +kernel) ⟨Nat.le_of_ble_eq_true rfl, Nat.le_of_ble_eq_true rfl⟩) ⟨CP.blind, (va_recv hev.1 hP.left (ci := 1) (q0 := 0) rfl rfl), (xpreT (X := rowsW E N ra pr) hev hz hA hP hD hS hR0 hap [13] rfl (fun q9 h9 => List.mem_append_right _ h9))⟩ rfl rfl hl.1 rfl (lv_room (Nat.le_of_ble_eq_true rfl)) dX0_search_51 ⟨Nat.le_of_ble_eq_true rfl, Nat.le_of_ble_eq_true rfl⟩) hP hD hS hA (fun r11 w12 H locs h13 hP hD hS => ?_)
      obtain ⟨sea214, rfl, rfl, h13⟩ := h13
      try dsimp only at h13
      have hP : va_P E.1 vwCl [(c0, .inr (1, [.ref cr, .int rev, .int sea214]))] H := hP
      have hD : va_D A [(c0, .inr (1, [.ref cr, .int rev, .int sea214]))] := hD
      refine xri hx hb hr hlocks hP hD hS ⟨sea214, rfl, ?_, ?_⟩ dX0_search_54
      · rw [ev6]
        exact (congrArg Prod.fst (srF_go (m := sea) 6 o4 kc10)).symm
      · rw [ev6] at h13
        exact h13.trans (congrArg Prod.snd (srF_go (m := sea) 6 o4 kc10)).symm
    · skip
      have kc10 := b1_n.mp c10
      refine lv_iload_n hx hb dX0_search_41 rfl (lv_at hl 2 rfl) ?_
      refine xri hx hb hr hlocks hP hD hS ⟨v6, rfl, ?_, ?_⟩ dX0_search_42
      · exact (congrArg Prod.fst (srF_hit (m := sea) 6 o4 kc10)).symm
      · rw [ev6]
        exact (congrArg Prod.snd (srF_hit (m := sea) 6 o4 kc10)).symm

abbrev pX0_follow2 (E : xE) (c0 : Nat) (cr : Nat) (rev : Int32) (sea : Int32) (ci : Nat → Option Nat) (N : Nat) (ra : Nat → Nat) (pr : Nat → RowP) (k : Nat) (x : Int32) (r : Int32) (w : va_W) : Prop := ∃ (sea2 : Int32), w = [(c0, .inr (1, [.ref cr, .int rev, .int sea2]))] ∧ r = (folF (srF ci pr x 7) (pr k) x ((pr k).1 16) 0 sea).1 ∧ (sea2 = (folF (srF ci pr x 7) (pr k) x ((pr k).1 16) 0 sea).2)
set_option maxHeartbeats 4000000 in
set_option maxRecDepth 100000 in
theorem kX0_follow2 (l : Launch) (E : xE) (c0 : Nat) (cr : Nat) (rev : Int32) (sea : Int32) (ci : Nat → Option Nat) (N : Nat) (ra : Nat → Nat) (pr : Nat → RowP) (k : Nat) (x : Int32) (hk : k < N) (hok : ∀ i, i < N → rOk (pr i)) (hci : ∀ j i, ci j = some i → i < N) (hto : ∀ k, k < N → ∀ i, i < (pr k).1 16 → isN ((pr k).2.2.2 6 i) 10) : KT l yX0_followDelegations wsX0_followDelegations 17 421 0 0 E [(c0, .inr (1, [.ref cr, .int rev, .int sea]))] ([(cr, aR E 10 (fun j => (ci j).map ra))] ++ rowsW E N ra pr) [.ref c0, .ref ((pr k).1 3), .int x, .int 2] (QI E (pX0_follow2 E c0 cr rev sea ci N ra pr k x)) := by
  refine KT.start (cc := cX0_followDelegations) (maxL := 7) (ret := (some .int)) (by decide) rfl (Nat.le_of_ble_eq_true rfl) ?_
  intro p e s m below meth c A H hx hb hr hlocks hml hts hown hin hP hR0 hD hap hev hz hA hS ls hl
  have hl : lv_has ls 7 [(0, .ref c0), (1, .ref ((pr k).1 3)), (2, .int x), (3, .int 2)] := hl
  have hiX1 : ∀ w ∈ wsX10, w ∈ wsX0_followDelegations := by decide +kernel
  have hiniX7 := hts (.initialized RX7) (by decide +kernel)
  have hstX7_fits := hts (.static yX7_fits) (by decide +kernel)
  have hi9 := hk
  have hap := xmoreA (L := [(ra k, .inr (5, [.int ((pr k).2.1 0), .int (nI ((pr k).1 17)), .int ((pr k).2.1 1), .long ((pr k).2.2.1), .ref ((pr k).1 0), .int (nI ((pr k).1 12)), .ref ((pr k).1 1), .ref ((pr k).1 2), .ref ((pr k).1 3), .ref ((pr k).1 4), .int (nI ((pr k).1 13)), .int (nI ((pr k).1 14)), .int ((pr k).2.1 2)])), ((pr k).1 0, aB E 16 ((pr k).2.2.2 0)), ((pr k).1 1, .inr (4, [.ref ((pr k).1 5), .ref ((pr k).1 6)])), ((pr k).1 5, aI E 10 ((pr k).2.2.2 1)), ((pr k).1 6, aI E 10 ((pr k).2.2.2 2)), ((pr k).1 2, .inr (7, [.ref ((pr k).1 7), .ref ((pr k).1 8), .int (nI ((pr k).1 15))])), ((pr k).1 7, aI E 7 ((pr k).2.2.2 3)), ((pr k).1 8, aI E 7 ((pr k).2.2.2 4)), ((pr k).1 3, .inr (2, [.ref ((pr k).1 9), .ref ((pr k).1 10), .ref ((pr k).1 11), .int (nI ((pr k).1 16))])), ((pr k).1 9, aI E 6 ((pr k).2.2.2 5)), ((pr k).1 10, aI E 6 ((pr k).2.2.2 6)), ((pr k).1 11, aZ E 6 ((pr k).2.2.2 7)), ((pr k).1 4, aI E 6 ((pr k).2.2.2 8))]) hap (fun q9 h9 => List.mem_append_right _ (rowsW_mem (E := E) (ra := ra) (pr := pr) (hk) q9 h9))
  have hR0 := xmore (L := [(ra k, .inr (5, [.int ((pr k).2.1 0), .int (nI ((pr k).1 17)), .int ((pr k).2.1 1), .long ((pr k).2.2.1), .ref ((pr k).1 0), .int (nI ((pr k).1 12)), .ref ((pr k).1 1), .ref ((pr k).1 2), .ref ((pr k).1 3), .ref ((pr k).1 4), .int (nI ((pr k).1 13)), .int (nI ((pr k).1 14)), .int ((pr k).2.1 2)])), ((pr k).1 0, aB E 16 ((pr k).2.2.2 0)), ((pr k).1 1, .inr (4, [.ref ((pr k).1 5), .ref ((pr k).1 6)])), ((pr k).1 5, aI E 10 ((pr k).2.2.2 1)), ((pr k).1 6, aI E 10 ((pr k).2.2.2 2)), ((pr k).1 2, .inr (7, [.ref ((pr k).1 7), .ref ((pr k).1 8), .int (nI ((pr k).1 15))])), ((pr k).1 7, aI E 7 ((pr k).2.2.2 3)), ((pr k).1 8, aI E 7 ((pr k).2.2.2 4)), ((pr k).1 3, .inr (2, [.ref ((pr k).1 9), .ref ((pr k).1 10), .ref ((pr k).1 11), .int (nI ((pr k).1 16))])), ((pr k).1 9, aI E 6 ((pr k).2.2.2 5)), ((pr k).1 10, aI E 6 ((pr k).2.2.2 6)), ((pr k).1 11, aZ E 6 ((pr k).2.2.2 7)), ((pr k).1 4, aI E 6 ((pr k).2.2.2 8))]) hR0 (fun q9 h9 => List.mem_append_right _ (rowsW_mem (E := E) (ra := ra) (pr := pr) (hk) q9 h9))
  have hap : ∀ q ∈ ([(ra k, .inr (5, [.int ((pr k).2.1 0), .int (nI ((pr k).1 17)), .int ((pr k).2.1 1), .long ((pr k).2.2.1), .ref ((pr k).1 0), .int (nI ((pr k).1 12)), .ref ((pr k).1 1), .ref ((pr k).1 2), .ref ((pr k).1 3), .ref ((pr k).1 4), .int (nI ((pr k).1 13)), .int (nI ((pr k).1 14)), .int ((pr k).2.1 2)])), ((pr k).1 0, aB E 16 ((pr k).2.2.2 0)), ((pr k).1 1, .inr (4, [.ref ((pr k).1 5), .ref ((pr k).1 6)])), ((pr k).1 5, aI E 10 ((pr k).2.2.2 1)), ((pr k).1 6, aI E 10 ((pr k).2.2.2 2)), ((pr k).1 2, .inr (7, [.ref ((pr k).1 7), .ref ((pr k).1 8), .int (nI ((pr k).1 15))])), ((pr k).1 7, aI E 7 ((pr k).2.2.2 3)), ((pr k).1 8, aI E 7 ((pr k).2.2.2 4)), ((pr k).1 3, .inr (2, [.ref ((pr k).1 9), .ref ((pr k).1 10), .ref ((pr k).1 11), .int (nI ((pr k).1 16))])), ((pr k).1 9, aI E 6 ((pr k).2.2.2 5)), ((pr k).1 10, aI E 6 ((pr k).2.2.2 6)), ((pr k).1 11, aZ E 6 ((pr k).2.2.2 7)), ((pr k).1 4, aI E 6 ((pr k).2.2.2 8)), (cr, aR E 10 (fun j => (ci j).map ra))] ++ rowsW E N ra pr), ¬ A q.1 := hap
  have hR0 : va_P E.1 vwCl ([(ra k, .inr (5, [.int ((pr k).2.1 0), .int (nI ((pr k).1 17)), .int ((pr k).2.1 1), .long ((pr k).2.2.1), .ref ((pr k).1 0), .int (nI ((pr k).1 12)), .ref ((pr k).1 1), .ref ((pr k).1 2), .ref ((pr k).1 3), .ref ((pr k).1 4), .int (nI ((pr k).1 13)), .int (nI ((pr k).1 14)), .int ((pr k).2.1 2)])), ((pr k).1 0, aB E 16 ((pr k).2.2.2 0)), ((pr k).1 1, .inr (4, [.ref ((pr k).1 5), .ref ((pr k).1 6)])), ((pr k).1 5, aI E 10 ((pr k).2.2.2 1)), ((pr k).1 6, aI E 10 ((pr k).2.2.2 2)), ((pr k).1 2, .inr (7, [.ref ((pr k).1 7), .ref ((pr k).1 8), .int (nI ((pr k).1 15))])), ((pr k).1 7, aI E 7 ((pr k).2.2.2 3)), ((pr k).1 8, aI E 7 ((pr k).2.2.2 4)), ((pr k).1 3, .inr (2, [.ref ((pr k).1 9), .ref ((pr k).1 10), .ref ((pr k).1 11), .int (nI ((pr k).1 16))])), ((pr k).1 9, aI E 6 ((pr k).2.2.2 5)), ((pr k).1 10, aI E 6 ((pr k).2.2.2 6)), ((pr k).1 11, aZ E 6 ((pr k).2.2.2 7)), ((pr k).1 4, aI E 6 ((pr k).2.2.2 8)), (cr, aR E 10 (fun j => (ci j).map ra))] ++ rowsW E N ra pr) s.heap := hR0
  have hltk : k < N := hk
  obtain ⟨o12k, o13k, o14k, o15k, o16k, o17k⟩ := hok k (hk)
  refine lv_iconst (v := 0) hx hb dX0_followDelegations_0 (by decide) ?_
  refine lv_istore (lv' := [(4, .int 0), (0, .ref c0), (1, .ref ((pr k).1 3)), (2, .int x), (3, .int 2)]) hx hb dX0_followDelegations_1 hl (by decide) rfl (fun ls hl => ?_)
  have loop3 : ∀ (fz3 : Nat) (i : Nat) (m9 : Int32), (i ≤ (pr k).1 16) → (folF (srF ci pr x 7) (pr k) x ((pr k).1 16 - i) i m9 = folF (srF ci pr x 7) (pr k) x ((pr k).1 16) 0 sea) → ((pr k).1 16 - i < fz3) → ∀ (H : Heap) (locs : List Loc), va_P E.1 vwCl [(c0, .inr (1, [.ref cr, .int rev, .int m9]))] H → va_D A [(c0, .inr (1, [.ref cr, .int rev, .int m9]))] → va_S A s.heap H locs → ∀ ls : Array Slot, lv_has ls 7 [(4, .int (nI i)), (0, .ref c0), (1, .ref ((pr k).1 3)), (2, .int x), (3, .int 2)] → W p l e ({ frames := 17, cells := 0, slots := 0, locals := 421 } : Room) s m ([.ref c0, .ref ((pr k).1 3), .int x, .int 2] : List Value).toArray below meth c H locs 0 0 (MQ below (QI E (pX0_follow2 E c0 cr rev sea ci N ra pr k x) A) ([.ref c0, .ref ((pr k).1 3), .int x, .int 2] : List Value).toArray s 0 0 A) (F0 m 3 ls []) := by
    intro fz3
    induction fz3 with
    | zero =>
      intro i m9 hi he hfuel
      exact absurd hfuel (by omega)
    | succ fz3 ih3 =>
      intro i m9 hi he hfuel H locs hP hD hS ls hl
      refine lv_iload hx hb dX0_followDelegations_3 (lv_at hl 0 rfl) ?_
      refine lv_aload_n hx hb dX0_followDelegations_5 rfl (lv_at hl 2 rfl) ?_
      refine va_getN (D := E.1) (ci := 2) (v := .int (nI ((pr k).1 16))) (C := RX1) (T := TX1) (N := 4) hx hb hts hiX1 hown hev.1 (xro hR0 hap hS) 8 rfl rfl 3 (by decide) (xNF4 hev.2.1) (fun _ h9 => h9) rfl dX0_followDelegations_6 ?_
      refine lv_icmp_ge (tgt := 91) hx hb dX0_followDelegations_9 (by decide) (fun c1 => ?_) (fun c1 => ?_)
      · skip
        have kc1 : ((pr k).1 16) ≤ i := (nI_leI (a := ((pr k).1 16)) (b := i) (by omega) (by omega)).mp c1
        refine lv_iconst (v := (-1)) hx hb dX0_followDelegations_91 (by decide) ?_
        refine xri hx hb hr hlocks hP hD hS ⟨m9, rfl, ?_, ?_⟩ dX0_followDelegations_92
        · exact congrArg Prod.fst ((fo_end (by omega)).symm.trans he)
        · exact congrArg Prod.snd ((fo_end (by omega)).symm.trans he)
      · skip
        have kc1 : ¬ ((pr k).1 16) ≤ i := fun h9 => c1 ((nI_leI (a := ((pr k).1 16)) (b := i) (by omega) (by omega)).mpr h9)
        refine lv_aload_n hx hb dX0_followDelegations_12 rfl (lv_at hl 2 rfl) ?_
        refine va_getN (D := E.1) (ci := 2) (v := .ref ((pr k).1 9)) (C := RX1) (T := TX1) (N := 4) hx hb hts hiX1 hown hev.1 (xro hR0 hap hS) 8 rfl rfl 0 (by decide) (xNF1 hev.2.1) (fun _ h9 => h9) rfl dX0_followDelegations_13 ?_
        refine lv_iload hx hb dX0_followDelegations_16 (lv_at hl 0 rfl) ?_
        refine xiald (k := (i)) hx hb hev.1 (xro hR0 hap hS) 9 1 rfl rfl (by omega) (by decide) dX0_followDelegations_18 ?_
        refine lv_iload_n hx hb dX0_followDelegations_19 rfl (lv_at hl 3 rfl) ?_
        have hP := hP.sub (ws' := [] ++ [(c0, .inr (1, [.ref cr, .int rev, .int m9]))]) [0] rfl
        have hD := hD.sub (ws' := [] ++ [(c0, .inr (1, [.ref cr, .int rev, .int m9]))]) [0] (by decide) rfl
        refine xci (va_runSN (As := [.int (((pr k).2.2.2 5) i), .int x]) (rest := []) ⟨hx, hb, hml, hown, hts⟩ (kX7_fits l E (((pr k).2.2.2 5) i) x  H.size) ⟨va_cnB 2 hts gX0_followDelegations_X7_fits_n108 rfl rfl rfl (xNM6 hev.2.1) hiniX7 (by decide +kernel) ⟨Nat.le_of_ble_eq_true rfl, Nat.le_of_ble_eq_true rfl⟩, hstX7_fits, trivial⟩ ⟨CP.blind, (xpre hev hz hA hP hD hS hR0 hap [] rfl)⟩ rfl rfl hl.1 rfl (lv_room (Nat.le_of_ble_eq_true rfl)) dX0_followDelegations_20 ⟨Nat.le_of_ble_eq_true rfl, Nat.le_of_ble_eq_true rfl⟩) hP hD hS hA (fun r2 w3 H locs h4 hP hD hS => ?_)
        obtain ⟨rfl, rfl, h4⟩ := h4
        try dsimp only at h4
        have hP : va_P E.1 vwCl [(c0, .inr (1, [.ref cr, .int rev, .int m9]))] H := hP
        have hD : va_D A [(c0, .inr (1, [.ref cr, .int rev, .int m9]))] := hD
        refine lv_if_ne (tgt := 29) hx hb dX0_followDelegations_23 (by decide) (fun c5 => ?_) (fun c5 => ?_)
        · skip
          have kc5 := b1_n.mp c5
          refine lv_aload_n hx hb dX0_followDelegations_29 rfl (lv_at hl 2 rfl) ?_
          refine va_getN (D := E.1) (ci := 2) (v := .ref ((pr k).1 10)) (C := RX1) (T := TX1) (N := 4) hx hb hts hiX1 hown hev.1 (xro hR0 hap hS) 8 rfl rfl 1 (by decide) (xNF2 hev.2.1) (fun _ h9 => h9) rfl dX0_followDelegations_30 ?_
          refine lv_iload hx hb dX0_followDelegations_33 (lv_at hl 0 rfl) ?_
          refine xiald (k := (i)) hx hb hev.1 (xro hR0 hap hS) 10 1 rfl rfl (by omega) (by decide) dX0_followDelegations_35 ?_
          obtain ⟨to6, hto6, eto⟩ := hto k hk i (by omega)
          refine xtop (y := nI to6) (eto) ?_
          refine lv_istore (lv' := [(5, .int (nI to6)), (4, .int (nI i)), (0, .ref c0), (1, .ref ((pr k).1 3)), (2, .int x), (3, .int 2)]) hx hb dX0_followDelegations_36 hl (by decide) rfl (fun ls hl => ?_)
          refine lv_aload_n hx hb dX0_followDelegations_38 rfl (lv_at hl 2 rfl) ?_
          refine lv_iload hx hb dX0_followDelegations_39 (lv_at hl 0 rfl) ?_
          have hP := hP.sub (ws' := [] ++ [(c0, .inr (1, [.ref cr, .int rev, .int m9]))]) [0] rfl
          have hD := hD.sub (ws' := [] ++ [(c0, .inr (1, [.ref cr, .int rev, .int m9]))]) [0] (by decide) rfl
          refine xci (va_runV (As := [.int (nI to6)]) (rest := []) ⟨hx, hb, hml, hown, hts⟩ (kX0_isSearched l E c0 cr rev m9 (nI to6)  H.size) (cwV 1 hts gX0_followDelegations_X0_isSearched rfl rfl rfl (by decide +kernel) ⟨Nat.le_of_ble_eq_true rfl, Nat.le_of_ble_eq_true rfl⟩) ⟨CP.blind, (va_recv hev.1 hP (ci := 1) (q0 := 0) rfl rfl), (xpre hev hz hA hP hD hS hR0 hap [0] rfl)⟩ rfl rfl hl.1 rfl (lv_room (Nat.le_of_ble_eq_true rfl)) dX0_followDelegations_41 ⟨Nat.le_of_ble_eq_true rfl, Nat.le_of_ble_eq_true rfl⟩) hP hD hS hA (fun r7 w8 H locs h9 hP hD hS => ?_)
          obtain ⟨rfl, rfl, h9⟩ := h9
          try dsimp only at h9
          have hP : va_P E.1 vwCl [(c0, .inr (1, [.ref cr, .int rev, .int m9]))] H := hP
          have hD : va_D A [(c0, .inr (1, [.ref cr, .int rev, .int m9]))] := hD
          refine lv_if_eq (tgt := 51) hx hb dX0_followDelegations_44 (by decide) (fun c10 => ?_) (fun c10 => ?_)
          · skip
            have kc10 := b1_0.mp c10
            refine lv_aload_n hx hb dX0_followDelegations_51 rfl (lv_at hl 2 rfl) ?_
            refine lv_iload hx hb dX0_followDelegations_52 (lv_at hl 0 rfl) ?_
            refine lv_iload_n hx hb dX0_followDelegations_54 rfl (lv_at hl 4 rfl) ?_
            refine lv_iload_n hx hb dX0_followDelegations_55 rfl (lv_at hl 5 rfl) ?_
            refine lv_iconst (v := 1) hx hb dX0_followDelegations_56 (by decide) ?_
            refine lv_iadd hx hb dX0_followDelegations_57 ?_
            refine xtop (y := 3) (by decide) ?_
            have hP := hP.sub (ws' := [(c0, .inr (1, [.ref cr, .int rev, .int m9]))] ++ []) [0] rfl
            have hD := hD.sub (ws' := [(c0, .inr (1, [.ref cr, .int rev, .int m9]))] ++ []) [0] (by decide) rfl
            refine xci (va_runV (As := [.int (nI to6), .int x, .int 3]) (rest := []) ⟨hx, hb, hml, hown, hts⟩ (kX0_search3 l E c0 cr rev m9 ci N ra pr to6 x (by first | assumption | omega) (by first | assumption | omega) (by first | assumption | omega) (by first | assumption | omega) H.size) (cwV 3 hts gX0_followDelegations_X0_search rfl rfl rfl (by decide +kernel) ⟨Nat.le_of_ble_eq_true rfl, Nat.le_of_ble_eq_true rfl⟩) ⟨CP.blind, (va_recv hev.1 hP.left (ci := 1) (q0 := 0) rfl rfl), (xpreT (X := rowsW E N ra pr) hev hz hA hP hD hS hR0 hap [13] rfl (fun q9 h9 => List.mem_append_right _ h9))⟩ rfl rfl hl.1 rfl (lv_room (Nat.le_of_ble_eq_true rfl)) dX0_followDelegations_58 ⟨Nat.le_of_ble_eq_true rfl, Nat.le_of_ble_eq_true rfl⟩) hP hD hS hA (fun r11 w12 H locs h13 hP hD hS => ?_)
            obtain ⟨sea214, rfl, rfl, h13⟩ := h13
            try dsimp only at h13
            have hP : va_P E.1 vwCl [(c0, .inr (1, [.ref cr, .int rev, .int sea214]))] H := hP
            have hD : va_D A [(c0, .inr (1, [.ref cr, .int rev, .int sea214]))] := hD
            refine lv_istore (lv' := [(6, .int ((srF ci pr x 7 to6 m9).1)), (5, .int (nI to6)), (4, .int (nI i)), (0, .ref c0), (1, .ref ((pr k).1 3)), (2, .int x), (3, .int 2)]) hx hb dX0_followDelegations_61 hl (by decide) rfl (fun ls hl => ?_)
            refine lv_iload hx hb dX0_followDelegations_63 (lv_at hl 0 rfl) ?_
            refine lv_iconst (v := (-1)) hx hb dX0_followDelegations_65 (by decide) ?_
            refine lv_icmp_eq (tgt := 72) hx hb dX0_followDelegations_66 (by decide) (fun c15 => ?_) (fun c15 => ?_)
            · skip
              refine lv_aload_n hx hb dX0_followDelegations_72 rfl (lv_at hl 4 rfl) ?_
              refine va_getN (D := E.1) (ci := 2) (v := .ref ((pr k).1 11)) (C := RX1) (T := TX1) (N := 4) hx hb hts hiX1 hown hev.1 (xro hR0 hap hS) 8 rfl rfl 2 (by decide) (xNF3 hev.2.1) (fun _ h9 => h9) rfl dX0_followDelegations_73 ?_
              refine lv_iload hx hb dX0_followDelegations_76 (lv_at hl 2 rfl) ?_
              refine xzald (k := (i)) hx hb hev.1 (xro hR0 hap hS) 11 3 rfl rfl (by omega) (by decide) dX0_followDelegations_78 ?_
              refine lv_if_eq (tgt := 85) hx hb dX0_followDelegations_79 (by decide) (fun c16 => ?_) (fun c16 => ?_)
              · skip
                refine lv_iinc (v := nI (i + 1)) (lv' := [(4, .int (nI (i + 1))), (6, .int ((srF ci pr x 7 to6 m9).1)), (5, .int (nI to6)), (0, .ref c0), (1, .ref ((pr k).1 3)), (2, .int x), (3, .int 2)]) hx hb dX0_followDelegations_85 hl (k := 2) rfl ((nI_add i 1).trans (congrArg nI (by omega))) (by decide) rfl (fun ls hl => ?_)
                refine lv_goto (tgt := 3) hx hb dX0_followDelegations_88 (by decide) ?_
                exact ih3  (i + 1) sea214 (by omega) (((fo_next (a := (srF ci pr x 7 to6 m9)) (by omega) kc5 (by rw [eto]; exact nI_clamp (by omega)) (pk2_f kc10) c15 c16).trans (by rw [← h13])).symm.trans he) (by omega) _ _ hP hD hS ls (lv_sub hl [0, 3, 4, 5, 6] rfl)
              · skip
                refine lv_bipush (v := (-2)) hx hb dX0_followDelegations_82 (by decide) ?_
                refine xri hx hb hr hlocks hP hD hS ⟨sea214, rfl, ?_, ?_⟩ dX0_followDelegations_84
                · exact congrArg Prod.fst ((fo_over (a := (srF ci pr x 7 to6 m9)) (by omega) kc5 (by rw [eto]; exact nI_clamp (by omega)) (pk2_f kc10) c15 c16).symm.trans he)
                · have q9 := congrArg Prod.snd ((fo_over (a := (srF ci pr x 7 to6 m9)) (by omega) kc5 (by rw [eto]; exact nI_clamp (by omega)) (pk2_f kc10) c15 c16).symm.trans he)
                  exact h13.trans q9
            · skip
              refine lv_iload hx hb dX0_followDelegations_69 (lv_at hl 0 rfl) ?_
              refine xri hx hb hr hlocks hP hD hS ⟨sea214, rfl, ?_, ?_⟩ dX0_followDelegations_71
              · exact (congrArg Prod.fst ((fo_hit (a := (srF ci pr x 7 to6 m9)) (by omega) kc5 (by rw [eto]; exact nI_clamp (by omega)) (pk2_f kc10) c15).symm.trans he))
              · exact h13.trans (congrArg Prod.snd ((fo_hit (a := (srF ci pr x 7 to6 m9)) (by omega) kc5 (by rw [eto]; exact nI_clamp (by omega)) (pk2_f kc10) c15).symm.trans he))
          · skip
            have kc10 := b1_n.mp c10
            refine lv_iconst (v := (-1)) hx hb dX0_followDelegations_47 (by decide) ?_
            refine lv_goto (tgt := 61) hx hb dX0_followDelegations_48 (by decide) ?_
            refine lv_istore (lv' := [(6, .int (-1)), (5, .int (nI to6)), (4, .int (nI i)), (0, .ref c0), (1, .ref ((pr k).1 3)), (2, .int x), (3, .int 2)]) hx hb dX0_followDelegations_61 hl (by decide) rfl (fun ls hl => ?_)
            refine lv_iload hx hb dX0_followDelegations_63 (lv_at hl 0 rfl) ?_
            refine lv_iconst (v := (-1)) hx hb dX0_followDelegations_65 (by decide) ?_
            refine lv_icmp_eq (tgt := 72) hx hb dX0_followDelegations_66 (by decide) (fun c17 => ?_) (fun c17 => absurd (by decide) c17)
            refine lv_aload_n hx hb dX0_followDelegations_72 rfl (lv_at hl 4 rfl) ?_
            refine va_getN (D := E.1) (ci := 2) (v := .ref ((pr k).1 11)) (C := RX1) (T := TX1) (N := 4) hx hb hts hiX1 hown hev.1 (xro hR0 hap hS) 8 rfl rfl 2 (by decide) (xNF3 hev.2.1) (fun _ h9 => h9) rfl dX0_followDelegations_73 ?_
            refine lv_iload hx hb dX0_followDelegations_76 (lv_at hl 2 rfl) ?_
            refine xzald (k := (i)) hx hb hev.1 (xro hR0 hap hS) 11 3 rfl rfl (by omega) (by decide) dX0_followDelegations_78 ?_
            refine lv_if_eq (tgt := 85) hx hb dX0_followDelegations_79 (by decide) (fun c18 => ?_) (fun c18 => ?_)
            · skip
              refine lv_iinc (v := nI (i + 1)) (lv' := [(4, .int (nI (i + 1))), (6, .int (-1)), (5, .int (nI to6)), (0, .ref c0), (1, .ref ((pr k).1 3)), (2, .int x), (3, .int 2)]) hx hb dX0_followDelegations_85 hl (k := 2) rfl ((nI_add i 1).trans (congrArg nI (by omega))) (by decide) rfl (fun ls hl => ?_)
              refine lv_goto (tgt := 3) hx hb dX0_followDelegations_88 (by decide) ?_
              exact ih3  (i + 1) m9 (by omega) ((fo_next (a := (-1, m9)) (by omega) kc5 (by rw [eto]; exact nI_clamp (by omega)) (pk2_t kc10) rfl c18).symm.trans he) (by omega) _ _ hP hD hS ls (lv_sub hl [0, 3, 4, 5, 6] rfl)
            · skip
              refine lv_bipush (v := (-2)) hx hb dX0_followDelegations_82 (by decide) ?_
              refine xri hx hb hr hlocks hP hD hS ⟨m9, rfl, ?_, ?_⟩ dX0_followDelegations_84
              · exact congrArg Prod.fst ((fo_over (a := (-1, m9)) (by omega) kc5 (by rw [eto]; exact nI_clamp (by omega)) (pk2_t kc10) rfl c18).symm.trans he)
              · exact congrArg Prod.snd ((fo_over (a := (-1, m9)) (by omega) kc5 (by rw [eto]; exact nI_clamp (by omega)) (pk2_t kc10) rfl c18).symm.trans he)
        · skip
          have kc5 := b1_0.mp c5
          refine lv_goto (tgt := 85) hx hb dX0_followDelegations_26 (by decide) ?_
          refine lv_iinc (v := nI (i + 1)) (lv' := [(4, .int (nI (i + 1))), (0, .ref c0), (1, .ref ((pr k).1 3)), (2, .int x), (3, .int 2)]) hx hb dX0_followDelegations_85 hl (k := 0) rfl ((nI_add i 1).trans (congrArg nI (by omega))) (by decide) rfl (fun ls hl => ?_)
          refine lv_goto (tgt := 3) hx hb dX0_followDelegations_88 (by decide) ?_
          exact ih3  (i + 1) m9 (by omega) ((fo_skip (by omega) kc5).symm.trans he) (by omega) _ _ hP hD hS ls (lv_sub hl [0, 1, 2, 3, 4] rfl)
  exact loop3 ((pr k).1 16 + 1) 0 sea (by omega) (rfl) (by omega) _ _ hP hD hS ls (lv_sub hl [0, 1, 2, 3, 4] rfl)

abbrev pX0_search2 (E : xE) (c0 : Nat) (cr : Nat) (rev : Int32) (sea : Int32) (ci : Nat → Option Nat) (N : Nat) (ra : Nat → Nat) (pr : Nat → RowP) (rl : Nat) (x : Int32) (r : Int32) (w : va_W) : Prop := ∃ (sea2 : Int32), w = [(c0, .inr (1, [.ref cr, .int rev, .int sea2]))] ∧ r = (srF ci pr x 8 rl sea).1 ∧ (sea2 = (srF ci pr x 8 rl sea).2)
set_option maxHeartbeats 4000000 in
set_option maxRecDepth 100000 in
theorem kX0_search2 (l : Launch) (E : xE) (c0 : Nat) (cr : Nat) (rev : Int32) (sea : Int32) (ci : Nat → Option Nat) (N : Nat) (ra : Nat → Nat) (pr : Nat → RowP) (rl : Nat) (x : Int32) (hrl : rl < 10) (hok : ∀ i, i < N → rOk (pr i)) (hci : ∀ j i, ci j = some i → i < N) (hto : ∀ k, k < N → ∀ i, i < (pr k).1 16 → isN ((pr k).2.2.2 6 i) 10) : KT l yX0_search wsX0_search 18 447 0 0 E [(c0, .inr (1, [.ref cr, .int rev, .int sea]))] ([(cr, aR E 10 (fun j => (ci j).map ra))] ++ rowsW E N ra pr) [.ref c0, .int (nI rl), .int x, .int 2] (QI E (pX0_search2 E c0 cr rev sea ci N ra pr rl x)) := by
  refine KT.start (cc := cX0_search) (maxL := 5) (ret := (some .int)) (by decide) rfl (Nat.le_of_ble_eq_true rfl) ?_
  intro p e s m below meth c A H hx hb hr hlocks hml hts hown hin hP hR0 hD hap hev hz hA hS ls hl
  have hl : lv_has ls 5 [(0, .ref c0), (1, .int (nI rl)), (2, .int x), (3, .int 2)] := hl
  have hiX0 : ∀ w ∈ wsX00, w ∈ wsX0_search := by decide +kernel
  have hiX4 : ∀ w ∈ wsX40, w ∈ wsX0_search := by decide +kernel
  have hf21 := hts (.fieldLink RX0 21 "SignQuorum$Client" "searchedRoles" "I") (by decide +kernel)
  refine lv_aload_n hx hb dX0_search_0 rfl (lv_at hl 0 rfl) ?_
  refine lv_iload_n hx hb dX0_search_1 rfl (lv_at hl 1 rfl) ?_
  have hP := hP.sub (ws' := [] ++ [(c0, .inr (1, [.ref cr, .int rev, .int sea]))]) [0] rfl
  have hD := hD.sub (ws' := [] ++ [(c0, .inr (1, [.ref cr, .int rev, .int sea]))]) [0] (by decide) rfl
  refine xcr (va_runV (As := [.int (nI rl)]) (rest := []) ⟨hx, hb, hml, hown, hts⟩ (kX0_currentOfJ l E c0 cr rev sea ci ra rl (by first | assumption | omega) H.size) (cwV 1 hts gX0_search_X0_currentOf rfl rfl rfl (by decide +kernel) ⟨Nat.le_of_ble_eq_true rfl, Nat.le_of_ble_eq_true rfl⟩) ⟨CP.blind, (va_recv hev.1 hP (ci := 1) (q0 := 0) rfl rfl), (xpre hev hz hA hP hD hS hR0 hap [0, 1] rfl)⟩ rfl rfl hl.1 rfl (lv_room (Nat.le_of_ble_eq_true rfl)) dX0_search_2 ⟨Nat.le_of_ble_eq_true rfl, Nat.le_of_ble_eq_true rfl⟩) hP hD hS hA (fun r1 w2 H locs h3 hP hD hS => ?_)
  obtain ⟨rfl, rfl, h3⟩ := h3
  try dsimp only at h3
  have hP : va_P E.1 vwCl [(c0, .inr (1, [.ref cr, .int rev, .int sea]))] H := hP
  have hD : va_D A [(c0, .inr (1, [.ref cr, .int rev, .int sea]))] := hD
  cases o4 : ci rl with
  | none =>
    refine lv_astoreN (lv' := [(4, .null), (0, .ref c0), (1, .int (nI rl)), (2, .int x), (3, .int 2)]) hx hb dX0_search_5 hl (by decide) rfl (fun ls hl => ?_)
    refine lv_aloadN hx hb dX0_search_7 (lv_at hl 0 rfl) ?_
    refine lv_ifnullN (tgt := 18) hx hb dX0_search_9 (by decide) ?_
    refine lv_iconst (v := (-1)) hx hb dX0_search_18 (by decide) ?_
    refine xri hx hb hr hlocks hP hD hS ⟨sea, rfl, ?_, ?_⟩ dX0_search_19
    · exact (congrArg Prod.fst (srF_none o4 8)).symm
    · exact (congrArg Prod.snd (srF_none o4 8)).symm
  | some kk =>
    have hap := xmoreA (L := [(ra kk, .inr (5, [.int ((pr kk).2.1 0), .int (nI ((pr kk).1 17)), .int ((pr kk).2.1 1), .long ((pr kk).2.2.1), .ref ((pr kk).1 0), .int (nI ((pr kk).1 12)), .ref ((pr kk).1 1), .ref ((pr kk).1 2), .ref ((pr kk).1 3), .ref ((pr kk).1 4), .int (nI ((pr kk).1 13)), .int (nI ((pr kk).1 14)), .int ((pr kk).2.1 2)])), ((pr kk).1 0, aB E 16 ((pr kk).2.2.2 0)), ((pr kk).1 1, .inr (4, [.ref ((pr kk).1 5), .ref ((pr kk).1 6)])), ((pr kk).1 5, aI E 10 ((pr kk).2.2.2 1)), ((pr kk).1 6, aI E 10 ((pr kk).2.2.2 2)), ((pr kk).1 2, .inr (7, [.ref ((pr kk).1 7), .ref ((pr kk).1 8), .int (nI ((pr kk).1 15))])), ((pr kk).1 7, aI E 7 ((pr kk).2.2.2 3)), ((pr kk).1 8, aI E 7 ((pr kk).2.2.2 4)), ((pr kk).1 3, .inr (2, [.ref ((pr kk).1 9), .ref ((pr kk).1 10), .ref ((pr kk).1 11), .int (nI ((pr kk).1 16))])), ((pr kk).1 9, aI E 6 ((pr kk).2.2.2 5)), ((pr kk).1 10, aI E 6 ((pr kk).2.2.2 6)), ((pr kk).1 11, aZ E 6 ((pr kk).2.2.2 7)), ((pr kk).1 4, aI E 6 ((pr kk).2.2.2 8))]) hap (fun q9 h9 => List.mem_append_right _ (rowsW_mem (E := E) (ra := ra) (pr := pr) (hci _ _ o4) q9 h9))
    have hR0 := xmore (L := [(ra kk, .inr (5, [.int ((pr kk).2.1 0), .int (nI ((pr kk).1 17)), .int ((pr kk).2.1 1), .long ((pr kk).2.2.1), .ref ((pr kk).1 0), .int (nI ((pr kk).1 12)), .ref ((pr kk).1 1), .ref ((pr kk).1 2), .ref ((pr kk).1 3), .ref ((pr kk).1 4), .int (nI ((pr kk).1 13)), .int (nI ((pr kk).1 14)), .int ((pr kk).2.1 2)])), ((pr kk).1 0, aB E 16 ((pr kk).2.2.2 0)), ((pr kk).1 1, .inr (4, [.ref ((pr kk).1 5), .ref ((pr kk).1 6)])), ((pr kk).1 5, aI E 10 ((pr kk).2.2.2 1)), ((pr kk).1 6, aI E 10 ((pr kk).2.2.2 2)), ((pr kk).1 2, .inr (7, [.ref ((pr kk).1 7), .ref ((pr kk).1 8), .int (nI ((pr kk).1 15))])), ((pr kk).1 7, aI E 7 ((pr kk).2.2.2 3)), ((pr kk).1 8, aI E 7 ((pr kk).2.2.2 4)), ((pr kk).1 3, .inr (2, [.ref ((pr kk).1 9), .ref ((pr kk).1 10), .ref ((pr kk).1 11), .int (nI ((pr kk).1 16))])), ((pr kk).1 9, aI E 6 ((pr kk).2.2.2 5)), ((pr kk).1 10, aI E 6 ((pr kk).2.2.2 6)), ((pr kk).1 11, aZ E 6 ((pr kk).2.2.2 7)), ((pr kk).1 4, aI E 6 ((pr kk).2.2.2 8))]) hR0 (fun q9 h9 => List.mem_append_right _ (rowsW_mem (E := E) (ra := ra) (pr := pr) (hci _ _ o4) q9 h9))
    have hap : ∀ q ∈ ([(ra kk, .inr (5, [.int ((pr kk).2.1 0), .int (nI ((pr kk).1 17)), .int ((pr kk).2.1 1), .long ((pr kk).2.2.1), .ref ((pr kk).1 0), .int (nI ((pr kk).1 12)), .ref ((pr kk).1 1), .ref ((pr kk).1 2), .ref ((pr kk).1 3), .ref ((pr kk).1 4), .int (nI ((pr kk).1 13)), .int (nI ((pr kk).1 14)), .int ((pr kk).2.1 2)])), ((pr kk).1 0, aB E 16 ((pr kk).2.2.2 0)), ((pr kk).1 1, .inr (4, [.ref ((pr kk).1 5), .ref ((pr kk).1 6)])), ((pr kk).1 5, aI E 10 ((pr kk).2.2.2 1)), ((pr kk).1 6, aI E 10 ((pr kk).2.2.2 2)), ((pr kk).1 2, .inr (7, [.ref ((pr kk).1 7), .ref ((pr kk).1 8), .int (nI ((pr kk).1 15))])), ((pr kk).1 7, aI E 7 ((pr kk).2.2.2 3)), ((pr kk).1 8, aI E 7 ((pr kk).2.2.2 4)), ((pr kk).1 3, .inr (2, [.ref ((pr kk).1 9), .ref ((pr kk).1 10), .ref ((pr kk).1 11), .int (nI ((pr kk).1 16))])), ((pr kk).1 9, aI E 6 ((pr kk).2.2.2 5)), ((pr kk).1 10, aI E 6 ((pr kk).2.2.2 6)), ((pr kk).1 11, aZ E 6 ((pr kk).2.2.2 7)), ((pr kk).1 4, aI E 6 ((pr kk).2.2.2 8)), (cr, aR E 10 (fun j => (ci j).map ra))] ++ rowsW E N ra pr), ¬ A q.1 := hap
    have hR0 : va_P E.1 vwCl ([(ra kk, .inr (5, [.int ((pr kk).2.1 0), .int (nI ((pr kk).1 17)), .int ((pr kk).2.1 1), .long ((pr kk).2.2.1), .ref ((pr kk).1 0), .int (nI ((pr kk).1 12)), .ref ((pr kk).1 1), .ref ((pr kk).1 2), .ref ((pr kk).1 3), .ref ((pr kk).1 4), .int (nI ((pr kk).1 13)), .int (nI ((pr kk).1 14)), .int ((pr kk).2.1 2)])), ((pr kk).1 0, aB E 16 ((pr kk).2.2.2 0)), ((pr kk).1 1, .inr (4, [.ref ((pr kk).1 5), .ref ((pr kk).1 6)])), ((pr kk).1 5, aI E 10 ((pr kk).2.2.2 1)), ((pr kk).1 6, aI E 10 ((pr kk).2.2.2 2)), ((pr kk).1 2, .inr (7, [.ref ((pr kk).1 7), .ref ((pr kk).1 8), .int (nI ((pr kk).1 15))])), ((pr kk).1 7, aI E 7 ((pr kk).2.2.2 3)), ((pr kk).1 8, aI E 7 ((pr kk).2.2.2 4)), ((pr kk).1 3, .inr (2, [.ref ((pr kk).1 9), .ref ((pr kk).1 10), .ref ((pr kk).1 11), .int (nI ((pr kk).1 16))])), ((pr kk).1 9, aI E 6 ((pr kk).2.2.2 5)), ((pr kk).1 10, aI E 6 ((pr kk).2.2.2 6)), ((pr kk).1 11, aZ E 6 ((pr kk).2.2.2 7)), ((pr kk).1 4, aI E 6 ((pr kk).2.2.2 8)), (cr, aR E 10 (fun j => (ci j).map ra))] ++ rowsW E N ra pr) s.heap := hR0
    have hltkk : kk < N := hci _ _ o4
    obtain ⟨o12kk, o13kk, o14kk, o15kk, o16kk, o17kk⟩ := hok kk (hci _ _ o4)
    refine lv_astore (lv' := [(4, .ref (ra kk)), (0, .ref c0), (1, .int (nI rl)), (2, .int x), (3, .int 2)]) hx hb dX0_search_5 hl (by decide) rfl (fun ls hl => ?_)
    refine lv_aload hx hb dX0_search_7 (lv_at hl 0 rfl) ?_
    refine lv_ifnull hx hb dX0_search_9 ?_
    refine lv_iload_n hx hb dX0_search_12 rfl (lv_at hl 4 rfl) ?_
    refine lv_bipush (v := 10) hx hb dX0_search_13 (by decide) ?_
    refine lv_icmp_lt (tgt := 20) hx hb dX0_search_15 (by decide) (fun c5 => ?_) (fun c5 => absurd (by decide) c5)
    refine lv_aload_n hx hb dX0_search_20 rfl (lv_at hl 1 rfl) ?_
    refine lv_dup hx hb dX0_search_21 rfl ?_
    refine va_get (D := E.1) (ci := 1) (v := .int sea) (C := RX0) (T := TX0) (N := 3) hx hb hts hiX0 hown hev.1 hP 0 rfl rfl 2 (by decide) hf21 (fun _ h9 => h9) rfl dX0_search_22 ?_
    refine lv_iconst (v := 1) hx hb dX0_search_25 (by decide) ?_
    refine lv_iload_n hx hb dX0_search_26 rfl (lv_at hl 2 rfl) ?_
    refine lv_ishl hx hb dX0_search_27 ?_
    refine lv_ior hx hb dX0_search_28 ?_
    refine lv_topi (fun v6 ev6 => ?_)
    refine va_put (D := E.1) (ci := 1) (v := .int v6) (ty := tyX0 2) (C := RX0) (T := TX0) (N := 3) hx hb hts hiX0 tyX0 tyX0_ok nmX0 hown hev.1 hP hD hS 0 rfl rfl 2 (by decide) hf21 (fun _ h9 => h9) rfl (tyX0_ok 2 (by decide)) rfl rfl (Nat.le_of_ble_eq_true rfl) dX0_search_29 (fun H locs hP hD hS => ?_)
    have hP : va_P E.1 vwCl [(c0, .inr (1, [.ref cr, .int rev, .int v6]))] H := hP
    have hD : va_D A [(c0, .inr (1, [.ref cr, .int rev, .int v6]))] := hD
    refine lv_aload hx hb dX0_search_32 (lv_at hl 0 rfl) ?_
    refine lv_iload_n hx hb dX0_search_34 rfl (lv_at hl 3 rfl) ?_
    have hP := hP.sub (ws' := [] ++ [(c0, .inr (1, [.ref cr, .int rev, .int v6]))]) [0] rfl
    have hD := hD.sub (ws' := [] ++ [(c0, .inr (1, [.ref cr, .int rev, .int v6]))]) [0] (by decide) rfl
    refine xci (va_runV (As := [.int x]) (rest := []) ⟨hx, hb, hml, hown, hts⟩ (kX4_hasPath l E (ra kk) ((pr kk).2.1 0) (nI ((pr kk).1 17)) ((pr kk).2.1 1) ((pr kk).2.2.1) ((pr kk).1 0) ((pr kk).1 12) ((pr kk).1 1) ((pr kk).1 2) ((pr kk).1 3) ((pr kk).1 4) ((pr kk).1 13) (nI ((pr kk).1 14)) ((pr kk).2.1 2) ((pr kk).2.2.2 8) x (by first | assumption | omega) H.size) (cwV 1 hts gX0_search_X4_hasPath rfl rfl rfl (by decide +kernel) ⟨Nat.le_of_ble_eq_true rfl, Nat.le_of_ble_eq_true rfl⟩) ⟨CP.blind, (va_recv hev.1 (xro hR0 hap hS) (ci := 5) (q0 := 0) rfl rfl), (xpre hev hz hA hP hD hS hR0 hap [1, 13] rfl)⟩ rfl rfl hl.1 rfl (lv_room (Nat.le_of_ble_eq_true rfl)) dX0_search_35 ⟨Nat.le_of_ble_eq_true rfl, Nat.le_of_ble_eq_true rfl⟩) hP hD hS hA (fun r7 w8 H locs h9 hP hD hS => ?_)
    obtain ⟨rfl, rfl, h9⟩ := h9
    try dsimp only at h9
    have hP : va_P E.1 vwCl [(c0, .inr (1, [.ref cr, .int rev, .int v6]))] H := hP
    have hD : va_D A [(c0, .inr (1, [.ref cr, .int rev, .int v6]))] := hD
    refine lv_if_eq (tgt := 43) hx hb dX0_search_38 (by decide) (fun c10 => ?_) (fun c10 => ?_)
    · skip
      have kc10 := b1_0.mp c10
      refine lv_aload_n hx hb dX0_search_43 rfl (lv_at hl 1 rfl) ?_
      refine lv_aload hx hb dX0_search_44 (lv_at hl 0 rfl) ?_
      refine va_getN (D := E.1) (ci := 5) (v := .ref ((pr kk).1 3)) (C := RX4) (T := TX4) (N := 13) hx hb hts hiX4 hown hev.1 (xro hR0 hap hS) 0 rfl rfl 8 (by decide) (xNF16 hev.2.1) (fun _ h9 => h9) rfl dX0_search_46 ?_
      refine lv_iload_n hx hb dX0_search_49 rfl (lv_at hl 3 rfl) ?_
      refine lv_iload_n hx hb dX0_search_50 rfl (lv_at hl 4 rfl) ?_
      have hP := hP.sub (ws' := [(c0, .inr (1, [.ref cr, .int rev, .int v6]))] ++ []) [0] rfl
      have hD := hD.sub (ws' := [(c0, .inr (1, [.ref cr, .int rev, .int v6]))] ++ []) [0] (by decide) rfl
      refine xci (va_runV (As := [.ref ((pr kk).1 3), .int x, .int 2]) (rest := []) ⟨hx, hb, hml, hown, hts⟩ (kX0_follow2 l E c0 cr rev v6 ci N ra pr kk x (by first | assumption | omega) (by first | assumption | omega) (by first | assumption | omega) (by first | assumption | omega) H.size) (cwV 3 hts gX0_search_X0_followDelegations rfl rfl rfl (by decide +kernel) ⟨Nat.le_of_ble_eq_true rfl, Nat.le_of_ble_eq_true rfl⟩) ⟨CP.blind, (va_recv hev.1 hP.left (ci := 1) (q0 := 0) rfl rfl), (xpreT (X := rowsW E N ra pr) hev hz hA hP hD hS hR0 hap [13] rfl (fun q9 h9 => List.mem_append_right _ h9))⟩ rfl rfl hl.1 rfl (lv_room (Nat.le_of_ble_eq_true rfl)) dX0_search_51 ⟨Nat.le_of_ble_eq_true rfl, Nat.le_of_ble_eq_true rfl⟩) hP hD hS hA (fun r11 w12 H locs h13 hP hD hS => ?_)
      obtain ⟨sea214, rfl, rfl, h13⟩ := h13
      try dsimp only at h13
      have hP : va_P E.1 vwCl [(c0, .inr (1, [.ref cr, .int rev, .int sea214]))] H := hP
      have hD : va_D A [(c0, .inr (1, [.ref cr, .int rev, .int sea214]))] := hD
      refine xri hx hb hr hlocks hP hD hS ⟨sea214, rfl, ?_, ?_⟩ dX0_search_54
      · rw [ev6]
        exact (congrArg Prod.fst (srF_go (m := sea) 7 o4 kc10)).symm
      · rw [ev6] at h13
        exact h13.trans (congrArg Prod.snd (srF_go (m := sea) 7 o4 kc10)).symm
    · skip
      have kc10 := b1_n.mp c10
      refine lv_iload_n hx hb dX0_search_41 rfl (lv_at hl 2 rfl) ?_
      refine xri hx hb hr hlocks hP hD hS ⟨v6, rfl, ?_, ?_⟩ dX0_search_42
      · exact (congrArg Prod.fst (srF_hit (m := sea) 7 o4 kc10)).symm
      · rw [ev6]
        exact (congrArg Prod.snd (srF_hit (m := sea) 7 o4 kc10)).symm

abbrev pX0_follow1 (E : xE) (c0 : Nat) (cr : Nat) (rev : Int32) (sea : Int32) (ci : Nat → Option Nat) (N : Nat) (ra : Nat → Nat) (pr : Nat → RowP) (k : Nat) (x : Int32) (r : Int32) (w : va_W) : Prop := ∃ (sea2 : Int32), w = [(c0, .inr (1, [.ref cr, .int rev, .int sea2]))] ∧ r = (folF (srF ci pr x 8) (pr k) x ((pr k).1 16) 0 sea).1 ∧ (sea2 = (folF (srF ci pr x 8) (pr k) x ((pr k).1 16) 0 sea).2)
set_option maxHeartbeats 4000000 in
set_option maxRecDepth 100000 in
theorem kX0_follow1 (l : Launch) (E : xE) (c0 : Nat) (cr : Nat) (rev : Int32) (sea : Int32) (ci : Nat → Option Nat) (N : Nat) (ra : Nat → Nat) (pr : Nat → RowP) (k : Nat) (x : Int32) (hk : k < N) (hok : ∀ i, i < N → rOk (pr i)) (hci : ∀ j i, ci j = some i → i < N) (hto : ∀ k, k < N → ∀ i, i < (pr k).1 16 → isN ((pr k).2.2.2 6 i) 10) : KT l yX0_followDelegations wsX0_followDelegations 19 471 0 0 E [(c0, .inr (1, [.ref cr, .int rev, .int sea]))] ([(cr, aR E 10 (fun j => (ci j).map ra))] ++ rowsW E N ra pr) [.ref c0, .ref ((pr k).1 3), .int x, .int 1] (QI E (pX0_follow1 E c0 cr rev sea ci N ra pr k x)) := by
  refine KT.start (cc := cX0_followDelegations) (maxL := 7) (ret := (some .int)) (by decide) rfl (Nat.le_of_ble_eq_true rfl) ?_
  intro p e s m below meth c A H hx hb hr hlocks hml hts hown hin hP hR0 hD hap hev hz hA hS ls hl
  have hl : lv_has ls 7 [(0, .ref c0), (1, .ref ((pr k).1 3)), (2, .int x), (3, .int 1)] := hl
  have hiX1 : ∀ w ∈ wsX10, w ∈ wsX0_followDelegations := by decide +kernel
  have hiniX7 := hts (.initialized RX7) (by decide +kernel)
  have hstX7_fits := hts (.static yX7_fits) (by decide +kernel)
  have hi9 := hk
  have hap := xmoreA (L := [(ra k, .inr (5, [.int ((pr k).2.1 0), .int (nI ((pr k).1 17)), .int ((pr k).2.1 1), .long ((pr k).2.2.1), .ref ((pr k).1 0), .int (nI ((pr k).1 12)), .ref ((pr k).1 1), .ref ((pr k).1 2), .ref ((pr k).1 3), .ref ((pr k).1 4), .int (nI ((pr k).1 13)), .int (nI ((pr k).1 14)), .int ((pr k).2.1 2)])), ((pr k).1 0, aB E 16 ((pr k).2.2.2 0)), ((pr k).1 1, .inr (4, [.ref ((pr k).1 5), .ref ((pr k).1 6)])), ((pr k).1 5, aI E 10 ((pr k).2.2.2 1)), ((pr k).1 6, aI E 10 ((pr k).2.2.2 2)), ((pr k).1 2, .inr (7, [.ref ((pr k).1 7), .ref ((pr k).1 8), .int (nI ((pr k).1 15))])), ((pr k).1 7, aI E 7 ((pr k).2.2.2 3)), ((pr k).1 8, aI E 7 ((pr k).2.2.2 4)), ((pr k).1 3, .inr (2, [.ref ((pr k).1 9), .ref ((pr k).1 10), .ref ((pr k).1 11), .int (nI ((pr k).1 16))])), ((pr k).1 9, aI E 6 ((pr k).2.2.2 5)), ((pr k).1 10, aI E 6 ((pr k).2.2.2 6)), ((pr k).1 11, aZ E 6 ((pr k).2.2.2 7)), ((pr k).1 4, aI E 6 ((pr k).2.2.2 8))]) hap (fun q9 h9 => List.mem_append_right _ (rowsW_mem (E := E) (ra := ra) (pr := pr) (hk) q9 h9))
  have hR0 := xmore (L := [(ra k, .inr (5, [.int ((pr k).2.1 0), .int (nI ((pr k).1 17)), .int ((pr k).2.1 1), .long ((pr k).2.2.1), .ref ((pr k).1 0), .int (nI ((pr k).1 12)), .ref ((pr k).1 1), .ref ((pr k).1 2), .ref ((pr k).1 3), .ref ((pr k).1 4), .int (nI ((pr k).1 13)), .int (nI ((pr k).1 14)), .int ((pr k).2.1 2)])), ((pr k).1 0, aB E 16 ((pr k).2.2.2 0)), ((pr k).1 1, .inr (4, [.ref ((pr k).1 5), .ref ((pr k).1 6)])), ((pr k).1 5, aI E 10 ((pr k).2.2.2 1)), ((pr k).1 6, aI E 10 ((pr k).2.2.2 2)), ((pr k).1 2, .inr (7, [.ref ((pr k).1 7), .ref ((pr k).1 8), .int (nI ((pr k).1 15))])), ((pr k).1 7, aI E 7 ((pr k).2.2.2 3)), ((pr k).1 8, aI E 7 ((pr k).2.2.2 4)), ((pr k).1 3, .inr (2, [.ref ((pr k).1 9), .ref ((pr k).1 10), .ref ((pr k).1 11), .int (nI ((pr k).1 16))])), ((pr k).1 9, aI E 6 ((pr k).2.2.2 5)), ((pr k).1 10, aI E 6 ((pr k).2.2.2 6)), ((pr k).1 11, aZ E 6 ((pr k).2.2.2 7)), ((pr k).1 4, aI E 6 ((pr k).2.2.2 8))]) hR0 (fun q9 h9 => List.mem_append_right _ (rowsW_mem (E := E) (ra := ra) (pr := pr) (hk) q9 h9))
  have hap : ∀ q ∈ ([(ra k, .inr (5, [.int ((pr k).2.1 0), .int (nI ((pr k).1 17)), .int ((pr k).2.1 1), .long ((pr k).2.2.1), .ref ((pr k).1 0), .int (nI ((pr k).1 12)), .ref ((pr k).1 1), .ref ((pr k).1 2), .ref ((pr k).1 3), .ref ((pr k).1 4), .int (nI ((pr k).1 13)), .int (nI ((pr k).1 14)), .int ((pr k).2.1 2)])), ((pr k).1 0, aB E 16 ((pr k).2.2.2 0)), ((pr k).1 1, .inr (4, [.ref ((pr k).1 5), .ref ((pr k).1 6)])), ((pr k).1 5, aI E 10 ((pr k).2.2.2 1)), ((pr k).1 6, aI E 10 ((pr k).2.2.2 2)), ((pr k).1 2, .inr (7, [.ref ((pr k).1 7), .ref ((pr k).1 8), .int (nI ((pr k).1 15))])), ((pr k).1 7, aI E 7 ((pr k).2.2.2 3)), ((pr k).1 8, aI E 7 ((pr k).2.2.2 4)), ((pr k).1 3, .inr (2, [.ref ((pr k).1 9), .ref ((pr k).1 10), .ref ((pr k).1 11), .int (nI ((pr k).1 16))])), ((pr k).1 9, aI E 6 ((pr k).2.2.2 5)), ((pr k).1 10, aI E 6 ((pr k).2.2.2 6)), ((pr k).1 11, aZ E 6 ((pr k).2.2.2 7)), ((pr k).1 4, aI E 6 ((pr k).2.2.2 8)), (cr, aR E 10 (fun j => (ci j).map ra))] ++ rowsW E N ra pr), ¬ A q.1 := hap
  have hR0 : va_P E.1 vwCl ([(ra k, .inr (5, [.int ((pr k).2.1 0), .int (nI ((pr k).1 17)), .int ((pr k).2.1 1), .long ((pr k).2.2.1), .ref ((pr k).1 0), .int (nI ((pr k).1 12)), .ref ((pr k).1 1), .ref ((pr k).1 2), .ref ((pr k).1 3), .ref ((pr k).1 4), .int (nI ((pr k).1 13)), .int (nI ((pr k).1 14)), .int ((pr k).2.1 2)])), ((pr k).1 0, aB E 16 ((pr k).2.2.2 0)), ((pr k).1 1, .inr (4, [.ref ((pr k).1 5), .ref ((pr k).1 6)])), ((pr k).1 5, aI E 10 ((pr k).2.2.2 1)), ((pr k).1 6, aI E 10 ((pr k).2.2.2 2)), ((pr k).1 2, .inr (7, [.ref ((pr k).1 7), .ref ((pr k).1 8), .int (nI ((pr k).1 15))])), ((pr k).1 7, aI E 7 ((pr k).2.2.2 3)), ((pr k).1 8, aI E 7 ((pr k).2.2.2 4)), ((pr k).1 3, .inr (2, [.ref ((pr k).1 9), .ref ((pr k).1 10), .ref ((pr k).1 11), .int (nI ((pr k).1 16))])), ((pr k).1 9, aI E 6 ((pr k).2.2.2 5)), ((pr k).1 10, aI E 6 ((pr k).2.2.2 6)), ((pr k).1 11, aZ E 6 ((pr k).2.2.2 7)), ((pr k).1 4, aI E 6 ((pr k).2.2.2 8)), (cr, aR E 10 (fun j => (ci j).map ra))] ++ rowsW E N ra pr) s.heap := hR0
  have hltk : k < N := hk
  obtain ⟨o12k, o13k, o14k, o15k, o16k, o17k⟩ := hok k (hk)
  refine lv_iconst (v := 0) hx hb dX0_followDelegations_0 (by decide) ?_
  refine lv_istore (lv' := [(4, .int 0), (0, .ref c0), (1, .ref ((pr k).1 3)), (2, .int x), (3, .int 1)]) hx hb dX0_followDelegations_1 hl (by decide) rfl (fun ls hl => ?_)
  have loop3 : ∀ (fz3 : Nat) (i : Nat) (m9 : Int32), (i ≤ (pr k).1 16) → (folF (srF ci pr x 8) (pr k) x ((pr k).1 16 - i) i m9 = folF (srF ci pr x 8) (pr k) x ((pr k).1 16) 0 sea) → ((pr k).1 16 - i < fz3) → ∀ (H : Heap) (locs : List Loc), va_P E.1 vwCl [(c0, .inr (1, [.ref cr, .int rev, .int m9]))] H → va_D A [(c0, .inr (1, [.ref cr, .int rev, .int m9]))] → va_S A s.heap H locs → ∀ ls : Array Slot, lv_has ls 7 [(4, .int (nI i)), (0, .ref c0), (1, .ref ((pr k).1 3)), (2, .int x), (3, .int 1)] → W p l e ({ frames := 19, cells := 0, slots := 0, locals := 471 } : Room) s m ([.ref c0, .ref ((pr k).1 3), .int x, .int 1] : List Value).toArray below meth c H locs 0 0 (MQ below (QI E (pX0_follow1 E c0 cr rev sea ci N ra pr k x) A) ([.ref c0, .ref ((pr k).1 3), .int x, .int 1] : List Value).toArray s 0 0 A) (F0 m 3 ls []) := by
    intro fz3
    induction fz3 with
    | zero =>
      intro i m9 hi he hfuel
      exact absurd hfuel (by omega)
    | succ fz3 ih3 =>
      intro i m9 hi he hfuel H locs hP hD hS ls hl
      refine lv_iload hx hb dX0_followDelegations_3 (lv_at hl 0 rfl) ?_
      refine lv_aload_n hx hb dX0_followDelegations_5 rfl (lv_at hl 2 rfl) ?_
      refine va_getN (D := E.1) (ci := 2) (v := .int (nI ((pr k).1 16))) (C := RX1) (T := TX1) (N := 4) hx hb hts hiX1 hown hev.1 (xro hR0 hap hS) 8 rfl rfl 3 (by decide) (xNF4 hev.2.1) (fun _ h9 => h9) rfl dX0_followDelegations_6 ?_
      refine lv_icmp_ge (tgt := 91) hx hb dX0_followDelegations_9 (by decide) (fun c1 => ?_) (fun c1 => ?_)
      · skip
        have kc1 : ((pr k).1 16) ≤ i := (nI_leI (a := ((pr k).1 16)) (b := i) (by omega) (by omega)).mp c1
        refine lv_iconst (v := (-1)) hx hb dX0_followDelegations_91 (by decide) ?_
        refine xri hx hb hr hlocks hP hD hS ⟨m9, rfl, ?_, ?_⟩ dX0_followDelegations_92
        · exact congrArg Prod.fst ((fo_end (by omega)).symm.trans he)
        · exact congrArg Prod.snd ((fo_end (by omega)).symm.trans he)
      · skip
        have kc1 : ¬ ((pr k).1 16) ≤ i := fun h9 => c1 ((nI_leI (a := ((pr k).1 16)) (b := i) (by omega) (by omega)).mpr h9)
        refine lv_aload_n hx hb dX0_followDelegations_12 rfl (lv_at hl 2 rfl) ?_
        refine va_getN (D := E.1) (ci := 2) (v := .ref ((pr k).1 9)) (C := RX1) (T := TX1) (N := 4) hx hb hts hiX1 hown hev.1 (xro hR0 hap hS) 8 rfl rfl 0 (by decide) (xNF1 hev.2.1) (fun _ h9 => h9) rfl dX0_followDelegations_13 ?_
        refine lv_iload hx hb dX0_followDelegations_16 (lv_at hl 0 rfl) ?_
        refine xiald (k := (i)) hx hb hev.1 (xro hR0 hap hS) 9 1 rfl rfl (by omega) (by decide) dX0_followDelegations_18 ?_
        refine lv_iload_n hx hb dX0_followDelegations_19 rfl (lv_at hl 3 rfl) ?_
        have hP := hP.sub (ws' := [] ++ [(c0, .inr (1, [.ref cr, .int rev, .int m9]))]) [0] rfl
        have hD := hD.sub (ws' := [] ++ [(c0, .inr (1, [.ref cr, .int rev, .int m9]))]) [0] (by decide) rfl
        refine xci (va_runSN (As := [.int (((pr k).2.2.2 5) i), .int x]) (rest := []) ⟨hx, hb, hml, hown, hts⟩ (kX7_fits l E (((pr k).2.2.2 5) i) x  H.size) ⟨va_cnB 2 hts gX0_followDelegations_X7_fits_n108 rfl rfl rfl (xNM6 hev.2.1) hiniX7 (by decide +kernel) ⟨Nat.le_of_ble_eq_true rfl, Nat.le_of_ble_eq_true rfl⟩, hstX7_fits, trivial⟩ ⟨CP.blind, (xpre hev hz hA hP hD hS hR0 hap [] rfl)⟩ rfl rfl hl.1 rfl (lv_room (Nat.le_of_ble_eq_true rfl)) dX0_followDelegations_20 ⟨Nat.le_of_ble_eq_true rfl, Nat.le_of_ble_eq_true rfl⟩) hP hD hS hA (fun r2 w3 H locs h4 hP hD hS => ?_)
        obtain ⟨rfl, rfl, h4⟩ := h4
        try dsimp only at h4
        have hP : va_P E.1 vwCl [(c0, .inr (1, [.ref cr, .int rev, .int m9]))] H := hP
        have hD : va_D A [(c0, .inr (1, [.ref cr, .int rev, .int m9]))] := hD
        refine lv_if_ne (tgt := 29) hx hb dX0_followDelegations_23 (by decide) (fun c5 => ?_) (fun c5 => ?_)
        · skip
          have kc5 := b1_n.mp c5
          refine lv_aload_n hx hb dX0_followDelegations_29 rfl (lv_at hl 2 rfl) ?_
          refine va_getN (D := E.1) (ci := 2) (v := .ref ((pr k).1 10)) (C := RX1) (T := TX1) (N := 4) hx hb hts hiX1 hown hev.1 (xro hR0 hap hS) 8 rfl rfl 1 (by decide) (xNF2 hev.2.1) (fun _ h9 => h9) rfl dX0_followDelegations_30 ?_
          refine lv_iload hx hb dX0_followDelegations_33 (lv_at hl 0 rfl) ?_
          refine xiald (k := (i)) hx hb hev.1 (xro hR0 hap hS) 10 1 rfl rfl (by omega) (by decide) dX0_followDelegations_35 ?_
          obtain ⟨to6, hto6, eto⟩ := hto k hk i (by omega)
          refine xtop (y := nI to6) (eto) ?_
          refine lv_istore (lv' := [(5, .int (nI to6)), (4, .int (nI i)), (0, .ref c0), (1, .ref ((pr k).1 3)), (2, .int x), (3, .int 1)]) hx hb dX0_followDelegations_36 hl (by decide) rfl (fun ls hl => ?_)
          refine lv_aload_n hx hb dX0_followDelegations_38 rfl (lv_at hl 2 rfl) ?_
          refine lv_iload hx hb dX0_followDelegations_39 (lv_at hl 0 rfl) ?_
          have hP := hP.sub (ws' := [] ++ [(c0, .inr (1, [.ref cr, .int rev, .int m9]))]) [0] rfl
          have hD := hD.sub (ws' := [] ++ [(c0, .inr (1, [.ref cr, .int rev, .int m9]))]) [0] (by decide) rfl
          refine xci (va_runV (As := [.int (nI to6)]) (rest := []) ⟨hx, hb, hml, hown, hts⟩ (kX0_isSearched l E c0 cr rev m9 (nI to6)  H.size) (cwV 1 hts gX0_followDelegations_X0_isSearched rfl rfl rfl (by decide +kernel) ⟨Nat.le_of_ble_eq_true rfl, Nat.le_of_ble_eq_true rfl⟩) ⟨CP.blind, (va_recv hev.1 hP (ci := 1) (q0 := 0) rfl rfl), (xpre hev hz hA hP hD hS hR0 hap [0] rfl)⟩ rfl rfl hl.1 rfl (lv_room (Nat.le_of_ble_eq_true rfl)) dX0_followDelegations_41 ⟨Nat.le_of_ble_eq_true rfl, Nat.le_of_ble_eq_true rfl⟩) hP hD hS hA (fun r7 w8 H locs h9 hP hD hS => ?_)
          obtain ⟨rfl, rfl, h9⟩ := h9
          try dsimp only at h9
          have hP : va_P E.1 vwCl [(c0, .inr (1, [.ref cr, .int rev, .int m9]))] H := hP
          have hD : va_D A [(c0, .inr (1, [.ref cr, .int rev, .int m9]))] := hD
          refine lv_if_eq (tgt := 51) hx hb dX0_followDelegations_44 (by decide) (fun c10 => ?_) (fun c10 => ?_)
          · skip
            have kc10 := b1_0.mp c10
            refine lv_aload_n hx hb dX0_followDelegations_51 rfl (lv_at hl 2 rfl) ?_
            refine lv_iload hx hb dX0_followDelegations_52 (lv_at hl 0 rfl) ?_
            refine lv_iload_n hx hb dX0_followDelegations_54 rfl (lv_at hl 4 rfl) ?_
            refine lv_iload_n hx hb dX0_followDelegations_55 rfl (lv_at hl 5 rfl) ?_
            refine lv_iconst (v := 1) hx hb dX0_followDelegations_56 (by decide) ?_
            refine lv_iadd hx hb dX0_followDelegations_57 ?_
            refine xtop (y := 2) (by decide) ?_
            have hP := hP.sub (ws' := [(c0, .inr (1, [.ref cr, .int rev, .int m9]))] ++ []) [0] rfl
            have hD := hD.sub (ws' := [(c0, .inr (1, [.ref cr, .int rev, .int m9]))] ++ []) [0] (by decide) rfl
            refine xci (va_runV (As := [.int (nI to6), .int x, .int 2]) (rest := []) ⟨hx, hb, hml, hown, hts⟩ (kX0_search2 l E c0 cr rev m9 ci N ra pr to6 x (by first | assumption | omega) (by first | assumption | omega) (by first | assumption | omega) (by first | assumption | omega) H.size) (cwV 3 hts gX0_followDelegations_X0_search rfl rfl rfl (by decide +kernel) ⟨Nat.le_of_ble_eq_true rfl, Nat.le_of_ble_eq_true rfl⟩) ⟨CP.blind, (va_recv hev.1 hP.left (ci := 1) (q0 := 0) rfl rfl), (xpreT (X := rowsW E N ra pr) hev hz hA hP hD hS hR0 hap [13] rfl (fun q9 h9 => List.mem_append_right _ h9))⟩ rfl rfl hl.1 rfl (lv_room (Nat.le_of_ble_eq_true rfl)) dX0_followDelegations_58 ⟨Nat.le_of_ble_eq_true rfl, Nat.le_of_ble_eq_true rfl⟩) hP hD hS hA (fun r11 w12 H locs h13 hP hD hS => ?_)
            obtain ⟨sea214, rfl, rfl, h13⟩ := h13
            try dsimp only at h13
            have hP : va_P E.1 vwCl [(c0, .inr (1, [.ref cr, .int rev, .int sea214]))] H := hP
            have hD : va_D A [(c0, .inr (1, [.ref cr, .int rev, .int sea214]))] := hD
            refine lv_istore (lv' := [(6, .int ((srF ci pr x 8 to6 m9).1)), (5, .int (nI to6)), (4, .int (nI i)), (0, .ref c0), (1, .ref ((pr k).1 3)), (2, .int x), (3, .int 1)]) hx hb dX0_followDelegations_61 hl (by decide) rfl (fun ls hl => ?_)
            refine lv_iload hx hb dX0_followDelegations_63 (lv_at hl 0 rfl) ?_
            refine lv_iconst (v := (-1)) hx hb dX0_followDelegations_65 (by decide) ?_
            refine lv_icmp_eq (tgt := 72) hx hb dX0_followDelegations_66 (by decide) (fun c15 => ?_) (fun c15 => ?_)
            · skip
              refine lv_aload_n hx hb dX0_followDelegations_72 rfl (lv_at hl 4 rfl) ?_
              refine va_getN (D := E.1) (ci := 2) (v := .ref ((pr k).1 11)) (C := RX1) (T := TX1) (N := 4) hx hb hts hiX1 hown hev.1 (xro hR0 hap hS) 8 rfl rfl 2 (by decide) (xNF3 hev.2.1) (fun _ h9 => h9) rfl dX0_followDelegations_73 ?_
              refine lv_iload hx hb dX0_followDelegations_76 (lv_at hl 2 rfl) ?_
              refine xzald (k := (i)) hx hb hev.1 (xro hR0 hap hS) 11 3 rfl rfl (by omega) (by decide) dX0_followDelegations_78 ?_
              refine lv_if_eq (tgt := 85) hx hb dX0_followDelegations_79 (by decide) (fun c16 => ?_) (fun c16 => ?_)
              · skip
                refine lv_iinc (v := nI (i + 1)) (lv' := [(4, .int (nI (i + 1))), (6, .int ((srF ci pr x 8 to6 m9).1)), (5, .int (nI to6)), (0, .ref c0), (1, .ref ((pr k).1 3)), (2, .int x), (3, .int 1)]) hx hb dX0_followDelegations_85 hl (k := 2) rfl ((nI_add i 1).trans (congrArg nI (by omega))) (by decide) rfl (fun ls hl => ?_)
                refine lv_goto (tgt := 3) hx hb dX0_followDelegations_88 (by decide) ?_
                exact ih3  (i + 1) sea214 (by omega) (((fo_next (a := (srF ci pr x 8 to6 m9)) (by omega) kc5 (by rw [eto]; exact nI_clamp (by omega)) (pk2_f kc10) c15 c16).trans (by rw [← h13])).symm.trans he) (by omega) _ _ hP hD hS ls (lv_sub hl [0, 3, 4, 5, 6] rfl)
              · skip
                refine lv_bipush (v := (-2)) hx hb dX0_followDelegations_82 (by decide) ?_
                refine xri hx hb hr hlocks hP hD hS ⟨sea214, rfl, ?_, ?_⟩ dX0_followDelegations_84
                · exact congrArg Prod.fst ((fo_over (a := (srF ci pr x 8 to6 m9)) (by omega) kc5 (by rw [eto]; exact nI_clamp (by omega)) (pk2_f kc10) c15 c16).symm.trans he)
                · have q9 := congrArg Prod.snd ((fo_over (a := (srF ci pr x 8 to6 m9)) (by omega) kc5 (by rw [eto]; exact nI_clamp (by omega)) (pk2_f kc10) c15 c16).symm.trans he)
                  exact h13.trans q9
            · skip
              refine lv_iload hx hb dX0_followDelegations_69 (lv_at hl 0 rfl) ?_
              refine xri hx hb hr hlocks hP hD hS ⟨sea214, rfl, ?_, ?_⟩ dX0_followDelegations_71
              · exact (congrArg Prod.fst ((fo_hit (a := (srF ci pr x 8 to6 m9)) (by omega) kc5 (by rw [eto]; exact nI_clamp (by omega)) (pk2_f kc10) c15).symm.trans he))
              · exact h13.trans (congrArg Prod.snd ((fo_hit (a := (srF ci pr x 8 to6 m9)) (by omega) kc5 (by rw [eto]; exact nI_clamp (by omega)) (pk2_f kc10) c15).symm.trans he))
          · skip
            have kc10 := b1_n.mp c10
            refine lv_iconst (v := (-1)) hx hb dX0_followDelegations_47 (by decide) ?_
            refine lv_goto (tgt := 61) hx hb dX0_followDelegations_48 (by decide) ?_
            refine lv_istore (lv' := [(6, .int (-1)), (5, .int (nI to6)), (4, .int (nI i)), (0, .ref c0), (1, .ref ((pr k).1 3)), (2, .int x), (3, .int 1)]) hx hb dX0_followDelegations_61 hl (by decide) rfl (fun ls hl => ?_)
            refine lv_iload hx hb dX0_followDelegations_63 (lv_at hl 0 rfl) ?_
            refine lv_iconst (v := (-1)) hx hb dX0_followDelegations_65 (by decide) ?_
            refine lv_icmp_eq (tgt := 72) hx hb dX0_followDelegations_66 (by decide) (fun c17 => ?_) (fun c17 => absurd (by decide) c17)
            refine lv_aload_n hx hb dX0_followDelegations_72 rfl (lv_at hl 4 rfl) ?_
            refine va_getN (D := E.1) (ci := 2) (v := .ref ((pr k).1 11)) (C := RX1) (T := TX1) (N := 4) hx hb hts hiX1 hown hev.1 (xro hR0 hap hS) 8 rfl rfl 2 (by decide) (xNF3 hev.2.1) (fun _ h9 => h9) rfl dX0_followDelegations_73 ?_
            refine lv_iload hx hb dX0_followDelegations_76 (lv_at hl 2 rfl) ?_
            refine xzald (k := (i)) hx hb hev.1 (xro hR0 hap hS) 11 3 rfl rfl (by omega) (by decide) dX0_followDelegations_78 ?_
            refine lv_if_eq (tgt := 85) hx hb dX0_followDelegations_79 (by decide) (fun c18 => ?_) (fun c18 => ?_)
            · skip
              refine lv_iinc (v := nI (i + 1)) (lv' := [(4, .int (nI (i + 1))), (6, .int (-1)), (5, .int (nI to6)), (0, .ref c0), (1, .ref ((pr k).1 3)), (2, .int x), (3, .int 1)]) hx hb dX0_followDelegations_85 hl (k := 2) rfl ((nI_add i 1).trans (congrArg nI (by omega))) (by decide) rfl (fun ls hl => ?_)
              refine lv_goto (tgt := 3) hx hb dX0_followDelegations_88 (by decide) ?_
              exact ih3  (i + 1) m9 (by omega) ((fo_next (a := (-1, m9)) (by omega) kc5 (by rw [eto]; exact nI_clamp (by omega)) (pk2_t kc10) rfl c18).symm.trans he) (by omega) _ _ hP hD hS ls (lv_sub hl [0, 3, 4, 5, 6] rfl)
            · skip
              refine lv_bipush (v := (-2)) hx hb dX0_followDelegations_82 (by decide) ?_
              refine xri hx hb hr hlocks hP hD hS ⟨m9, rfl, ?_, ?_⟩ dX0_followDelegations_84
              · exact congrArg Prod.fst ((fo_over (a := (-1, m9)) (by omega) kc5 (by rw [eto]; exact nI_clamp (by omega)) (pk2_t kc10) rfl c18).symm.trans he)
              · exact congrArg Prod.snd ((fo_over (a := (-1, m9)) (by omega) kc5 (by rw [eto]; exact nI_clamp (by omega)) (pk2_t kc10) rfl c18).symm.trans he)
        · skip
          have kc5 := b1_0.mp c5
          refine lv_goto (tgt := 85) hx hb dX0_followDelegations_26 (by decide) ?_
          refine lv_iinc (v := nI (i + 1)) (lv' := [(4, .int (nI (i + 1))), (0, .ref c0), (1, .ref ((pr k).1 3)), (2, .int x), (3, .int 1)]) hx hb dX0_followDelegations_85 hl (k := 0) rfl ((nI_add i 1).trans (congrArg nI (by omega))) (by decide) rfl (fun ls hl => ?_)
          refine lv_goto (tgt := 3) hx hb dX0_followDelegations_88 (by decide) ?_
          exact ih3  (i + 1) m9 (by omega) ((fo_skip (by omega) kc5).symm.trans he) (by omega) _ _ hP hD hS ls (lv_sub hl [0, 1, 2, 3, 4] rfl)
  exact loop3 ((pr k).1 16 + 1) 0 sea (by omega) (rfl) (by omega) _ _ hP hD hS ls (lv_sub hl [0, 1, 2, 3, 4] rfl)

abbrev pX0_search1 (E : xE) (c0 : Nat) (cr : Nat) (rev : Int32) (sea : Int32) (ci : Nat → Option Nat) (N : Nat) (ra : Nat → Nat) (pr : Nat → RowP) (rl : Nat) (x : Int32) (r : Int32) (w : va_W) : Prop := ∃ (sea2 : Int32), w = [(c0, .inr (1, [.ref cr, .int rev, .int sea2]))] ∧ r = (srF ci pr x 9 rl sea).1 ∧ (sea2 = (srF ci pr x 9 rl sea).2)
set_option maxHeartbeats 4000000 in
set_option maxRecDepth 100000 in
theorem kX0_search1 (l : Launch) (E : xE) (c0 : Nat) (cr : Nat) (rev : Int32) (sea : Int32) (ci : Nat → Option Nat) (N : Nat) (ra : Nat → Nat) (pr : Nat → RowP) (rl : Nat) (x : Int32) (hrl : rl < 10) (hok : ∀ i, i < N → rOk (pr i)) (hci : ∀ j i, ci j = some i → i < N) (hto : ∀ k, k < N → ∀ i, i < (pr k).1 16 → isN ((pr k).2.2.2 6 i) 10) : KT l yX0_search wsX0_search 20 497 0 0 E [(c0, .inr (1, [.ref cr, .int rev, .int sea]))] ([(cr, aR E 10 (fun j => (ci j).map ra))] ++ rowsW E N ra pr) [.ref c0, .int (nI rl), .int x, .int 1] (QI E (pX0_search1 E c0 cr rev sea ci N ra pr rl x)) := by
  refine KT.start (cc := cX0_search) (maxL := 5) (ret := (some .int)) (by decide) rfl (Nat.le_of_ble_eq_true rfl) ?_
  intro p e s m below meth c A H hx hb hr hlocks hml hts hown hin hP hR0 hD hap hev hz hA hS ls hl
  have hl : lv_has ls 5 [(0, .ref c0), (1, .int (nI rl)), (2, .int x), (3, .int 1)] := hl
  have hiX0 : ∀ w ∈ wsX00, w ∈ wsX0_search := by decide +kernel
  have hiX4 : ∀ w ∈ wsX40, w ∈ wsX0_search := by decide +kernel
  have hf21 := hts (.fieldLink RX0 21 "SignQuorum$Client" "searchedRoles" "I") (by decide +kernel)
  refine lv_aload_n hx hb dX0_search_0 rfl (lv_at hl 0 rfl) ?_
  refine lv_iload_n hx hb dX0_search_1 rfl (lv_at hl 1 rfl) ?_
  have hP := hP.sub (ws' := [] ++ [(c0, .inr (1, [.ref cr, .int rev, .int sea]))]) [0] rfl
  have hD := hD.sub (ws' := [] ++ [(c0, .inr (1, [.ref cr, .int rev, .int sea]))]) [0] (by decide) rfl
  refine xcr (va_runV (As := [.int (nI rl)]) (rest := []) ⟨hx, hb, hml, hown, hts⟩ (kX0_currentOfJ l E c0 cr rev sea ci ra rl (by first | assumption | omega) H.size) (cwV 1 hts gX0_search_X0_currentOf rfl rfl rfl (by decide +kernel) ⟨Nat.le_of_ble_eq_true rfl, Nat.le_of_ble_eq_true rfl⟩) ⟨CP.blind, (va_recv hev.1 hP (ci := 1) (q0 := 0) rfl rfl), (xpre hev hz hA hP hD hS hR0 hap [0, 1] rfl)⟩ rfl rfl hl.1 rfl (lv_room (Nat.le_of_ble_eq_true rfl)) dX0_search_2 ⟨Nat.le_of_ble_eq_true rfl, Nat.le_of_ble_eq_true rfl⟩) hP hD hS hA (fun r1 w2 H locs h3 hP hD hS => ?_)
  obtain ⟨rfl, rfl, h3⟩ := h3
  try dsimp only at h3
  have hP : va_P E.1 vwCl [(c0, .inr (1, [.ref cr, .int rev, .int sea]))] H := hP
  have hD : va_D A [(c0, .inr (1, [.ref cr, .int rev, .int sea]))] := hD
  cases o4 : ci rl with
  | none =>
    refine lv_astoreN (lv' := [(4, .null), (0, .ref c0), (1, .int (nI rl)), (2, .int x), (3, .int 1)]) hx hb dX0_search_5 hl (by decide) rfl (fun ls hl => ?_)
    refine lv_aloadN hx hb dX0_search_7 (lv_at hl 0 rfl) ?_
    refine lv_ifnullN (tgt := 18) hx hb dX0_search_9 (by decide) ?_
    refine lv_iconst (v := (-1)) hx hb dX0_search_18 (by decide) ?_
    refine xri hx hb hr hlocks hP hD hS ⟨sea, rfl, ?_, ?_⟩ dX0_search_19
    · exact (congrArg Prod.fst (srF_none o4 9)).symm
    · exact (congrArg Prod.snd (srF_none o4 9)).symm
  | some kk =>
    have hap := xmoreA (L := [(ra kk, .inr (5, [.int ((pr kk).2.1 0), .int (nI ((pr kk).1 17)), .int ((pr kk).2.1 1), .long ((pr kk).2.2.1), .ref ((pr kk).1 0), .int (nI ((pr kk).1 12)), .ref ((pr kk).1 1), .ref ((pr kk).1 2), .ref ((pr kk).1 3), .ref ((pr kk).1 4), .int (nI ((pr kk).1 13)), .int (nI ((pr kk).1 14)), .int ((pr kk).2.1 2)])), ((pr kk).1 0, aB E 16 ((pr kk).2.2.2 0)), ((pr kk).1 1, .inr (4, [.ref ((pr kk).1 5), .ref ((pr kk).1 6)])), ((pr kk).1 5, aI E 10 ((pr kk).2.2.2 1)), ((pr kk).1 6, aI E 10 ((pr kk).2.2.2 2)), ((pr kk).1 2, .inr (7, [.ref ((pr kk).1 7), .ref ((pr kk).1 8), .int (nI ((pr kk).1 15))])), ((pr kk).1 7, aI E 7 ((pr kk).2.2.2 3)), ((pr kk).1 8, aI E 7 ((pr kk).2.2.2 4)), ((pr kk).1 3, .inr (2, [.ref ((pr kk).1 9), .ref ((pr kk).1 10), .ref ((pr kk).1 11), .int (nI ((pr kk).1 16))])), ((pr kk).1 9, aI E 6 ((pr kk).2.2.2 5)), ((pr kk).1 10, aI E 6 ((pr kk).2.2.2 6)), ((pr kk).1 11, aZ E 6 ((pr kk).2.2.2 7)), ((pr kk).1 4, aI E 6 ((pr kk).2.2.2 8))]) hap (fun q9 h9 => List.mem_append_right _ (rowsW_mem (E := E) (ra := ra) (pr := pr) (hci _ _ o4) q9 h9))
    have hR0 := xmore (L := [(ra kk, .inr (5, [.int ((pr kk).2.1 0), .int (nI ((pr kk).1 17)), .int ((pr kk).2.1 1), .long ((pr kk).2.2.1), .ref ((pr kk).1 0), .int (nI ((pr kk).1 12)), .ref ((pr kk).1 1), .ref ((pr kk).1 2), .ref ((pr kk).1 3), .ref ((pr kk).1 4), .int (nI ((pr kk).1 13)), .int (nI ((pr kk).1 14)), .int ((pr kk).2.1 2)])), ((pr kk).1 0, aB E 16 ((pr kk).2.2.2 0)), ((pr kk).1 1, .inr (4, [.ref ((pr kk).1 5), .ref ((pr kk).1 6)])), ((pr kk).1 5, aI E 10 ((pr kk).2.2.2 1)), ((pr kk).1 6, aI E 10 ((pr kk).2.2.2 2)), ((pr kk).1 2, .inr (7, [.ref ((pr kk).1 7), .ref ((pr kk).1 8), .int (nI ((pr kk).1 15))])), ((pr kk).1 7, aI E 7 ((pr kk).2.2.2 3)), ((pr kk).1 8, aI E 7 ((pr kk).2.2.2 4)), ((pr kk).1 3, .inr (2, [.ref ((pr kk).1 9), .ref ((pr kk).1 10), .ref ((pr kk).1 11), .int (nI ((pr kk).1 16))])), ((pr kk).1 9, aI E 6 ((pr kk).2.2.2 5)), ((pr kk).1 10, aI E 6 ((pr kk).2.2.2 6)), ((pr kk).1 11, aZ E 6 ((pr kk).2.2.2 7)), ((pr kk).1 4, aI E 6 ((pr kk).2.2.2 8))]) hR0 (fun q9 h9 => List.mem_append_right _ (rowsW_mem (E := E) (ra := ra) (pr := pr) (hci _ _ o4) q9 h9))
    have hap : ∀ q ∈ ([(ra kk, .inr (5, [.int ((pr kk).2.1 0), .int (nI ((pr kk).1 17)), .int ((pr kk).2.1 1), .long ((pr kk).2.2.1), .ref ((pr kk).1 0), .int (nI ((pr kk).1 12)), .ref ((pr kk).1 1), .ref ((pr kk).1 2), .ref ((pr kk).1 3), .ref ((pr kk).1 4), .int (nI ((pr kk).1 13)), .int (nI ((pr kk).1 14)), .int ((pr kk).2.1 2)])), ((pr kk).1 0, aB E 16 ((pr kk).2.2.2 0)), ((pr kk).1 1, .inr (4, [.ref ((pr kk).1 5), .ref ((pr kk).1 6)])), ((pr kk).1 5, aI E 10 ((pr kk).2.2.2 1)), ((pr kk).1 6, aI E 10 ((pr kk).2.2.2 2)), ((pr kk).1 2, .inr (7, [.ref ((pr kk).1 7), .ref ((pr kk).1 8), .int (nI ((pr kk).1 15))])), ((pr kk).1 7, aI E 7 ((pr kk).2.2.2 3)), ((pr kk).1 8, aI E 7 ((pr kk).2.2.2 4)), ((pr kk).1 3, .inr (2, [.ref ((pr kk).1 9), .ref ((pr kk).1 10), .ref ((pr kk).1 11), .int (nI ((pr kk).1 16))])), ((pr kk).1 9, aI E 6 ((pr kk).2.2.2 5)), ((pr kk).1 10, aI E 6 ((pr kk).2.2.2 6)), ((pr kk).1 11, aZ E 6 ((pr kk).2.2.2 7)), ((pr kk).1 4, aI E 6 ((pr kk).2.2.2 8)), (cr, aR E 10 (fun j => (ci j).map ra))] ++ rowsW E N ra pr), ¬ A q.1 := hap
    have hR0 : va_P E.1 vwCl ([(ra kk, .inr (5, [.int ((pr kk).2.1 0), .int (nI ((pr kk).1 17)), .int ((pr kk).2.1 1), .long ((pr kk).2.2.1), .ref ((pr kk).1 0), .int (nI ((pr kk).1 12)), .ref ((pr kk).1 1), .ref ((pr kk).1 2), .ref ((pr kk).1 3), .ref ((pr kk).1 4), .int (nI ((pr kk).1 13)), .int (nI ((pr kk).1 14)), .int ((pr kk).2.1 2)])), ((pr kk).1 0, aB E 16 ((pr kk).2.2.2 0)), ((pr kk).1 1, .inr (4, [.ref ((pr kk).1 5), .ref ((pr kk).1 6)])), ((pr kk).1 5, aI E 10 ((pr kk).2.2.2 1)), ((pr kk).1 6, aI E 10 ((pr kk).2.2.2 2)), ((pr kk).1 2, .inr (7, [.ref ((pr kk).1 7), .ref ((pr kk).1 8), .int (nI ((pr kk).1 15))])), ((pr kk).1 7, aI E 7 ((pr kk).2.2.2 3)), ((pr kk).1 8, aI E 7 ((pr kk).2.2.2 4)), ((pr kk).1 3, .inr (2, [.ref ((pr kk).1 9), .ref ((pr kk).1 10), .ref ((pr kk).1 11), .int (nI ((pr kk).1 16))])), ((pr kk).1 9, aI E 6 ((pr kk).2.2.2 5)), ((pr kk).1 10, aI E 6 ((pr kk).2.2.2 6)), ((pr kk).1 11, aZ E 6 ((pr kk).2.2.2 7)), ((pr kk).1 4, aI E 6 ((pr kk).2.2.2 8)), (cr, aR E 10 (fun j => (ci j).map ra))] ++ rowsW E N ra pr) s.heap := hR0
    have hltkk : kk < N := hci _ _ o4
    obtain ⟨o12kk, o13kk, o14kk, o15kk, o16kk, o17kk⟩ := hok kk (hci _ _ o4)
    refine lv_astore (lv' := [(4, .ref (ra kk)), (0, .ref c0), (1, .int (nI rl)), (2, .int x), (3, .int 1)]) hx hb dX0_search_5 hl (by decide) rfl (fun ls hl => ?_)
    refine lv_aload hx hb dX0_search_7 (lv_at hl 0 rfl) ?_
    refine lv_ifnull hx hb dX0_search_9 ?_
    refine lv_iload_n hx hb dX0_search_12 rfl (lv_at hl 4 rfl) ?_
    refine lv_bipush (v := 10) hx hb dX0_search_13 (by decide) ?_
    refine lv_icmp_lt (tgt := 20) hx hb dX0_search_15 (by decide) (fun c5 => ?_) (fun c5 => absurd (by decide) c5)
    refine lv_aload_n hx hb dX0_search_20 rfl (lv_at hl 1 rfl) ?_
    refine lv_dup hx hb dX0_search_21 rfl ?_
    refine va_get (D := E.1) (ci := 1) (v := .int sea) (C := RX0) (T := TX0) (N := 3) hx hb hts hiX0 hown hev.1 hP 0 rfl rfl 2 (by decide) hf21 (fun _ h9 => h9) rfl dX0_search_22 ?_
    refine lv_iconst (v := 1) hx hb dX0_search_25 (by decide) ?_
    refine lv_iload_n hx hb dX0_search_26 rfl (lv_at hl 2 rfl) ?_
    refine lv_ishl hx hb dX0_search_27 ?_
    refine lv_ior hx hb dX0_search_28 ?_
    refine lv_topi (fun v6 ev6 => ?_)
    refine va_put (D := E.1) (ci := 1) (v := .int v6) (ty := tyX0 2) (C := RX0) (T := TX0) (N := 3) hx hb hts hiX0 tyX0 tyX0_ok nmX0 hown hev.1 hP hD hS 0 rfl rfl 2 (by decide) hf21 (fun _ h9 => h9) rfl (tyX0_ok 2 (by decide)) rfl rfl (Nat.le_of_ble_eq_true rfl) dX0_search_29 (fun H locs hP hD hS => ?_)
    have hP : va_P E.1 vwCl [(c0, .inr (1, [.ref cr, .int rev, .int v6]))] H := hP
    have hD : va_D A [(c0, .inr (1, [.ref cr, .int rev, .int v6]))] := hD
    refine lv_aload hx hb dX0_search_32 (lv_at hl 0 rfl) ?_
    refine lv_iload_n hx hb dX0_search_34 rfl (lv_at hl 3 rfl) ?_
    have hP := hP.sub (ws' := [] ++ [(c0, .inr (1, [.ref cr, .int rev, .int v6]))]) [0] rfl
    have hD := hD.sub (ws' := [] ++ [(c0, .inr (1, [.ref cr, .int rev, .int v6]))]) [0] (by decide) rfl
    refine xci (va_runV (As := [.int x]) (rest := []) ⟨hx, hb, hml, hown, hts⟩ (kX4_hasPath l E (ra kk) ((pr kk).2.1 0) (nI ((pr kk).1 17)) ((pr kk).2.1 1) ((pr kk).2.2.1) ((pr kk).1 0) ((pr kk).1 12) ((pr kk).1 1) ((pr kk).1 2) ((pr kk).1 3) ((pr kk).1 4) ((pr kk).1 13) (nI ((pr kk).1 14)) ((pr kk).2.1 2) ((pr kk).2.2.2 8) x (by first | assumption | omega) H.size) (cwV 1 hts gX0_search_X4_hasPath rfl rfl rfl (by decide +kernel) ⟨Nat.le_of_ble_eq_true rfl, Nat.le_of_ble_eq_true rfl⟩) ⟨CP.blind, (va_recv hev.1 (xro hR0 hap hS) (ci := 5) (q0 := 0) rfl rfl), (xpre hev hz hA hP hD hS hR0 hap [1, 13] rfl)⟩ rfl rfl hl.1 rfl (lv_room (Nat.le_of_ble_eq_true rfl)) dX0_search_35 ⟨Nat.le_of_ble_eq_true rfl, Nat.le_of_ble_eq_true rfl⟩) hP hD hS hA (fun r7 w8 H locs h9 hP hD hS => ?_)
    obtain ⟨rfl, rfl, h9⟩ := h9
    try dsimp only at h9
    have hP : va_P E.1 vwCl [(c0, .inr (1, [.ref cr, .int rev, .int v6]))] H := hP
    have hD : va_D A [(c0, .inr (1, [.ref cr, .int rev, .int v6]))] := hD
    refine lv_if_eq (tgt := 43) hx hb dX0_search_38 (by decide) (fun c10 => ?_) (fun c10 => ?_)
    · skip
      have kc10 := b1_0.mp c10
      refine lv_aload_n hx hb dX0_search_43 rfl (lv_at hl 1 rfl) ?_
      refine lv_aload hx hb dX0_search_44 (lv_at hl 0 rfl) ?_
      refine va_getN (D := E.1) (ci := 5) (v := .ref ((pr kk).1 3)) (C := RX4) (T := TX4) (N := 13) hx hb hts hiX4 hown hev.1 (xro hR0 hap hS) 0 rfl rfl 8 (by decide) (xNF16 hev.2.1) (fun _ h9 => h9) rfl dX0_search_46 ?_
      refine lv_iload_n hx hb dX0_search_49 rfl (lv_at hl 3 rfl) ?_
      refine lv_iload_n hx hb dX0_search_50 rfl (lv_at hl 4 rfl) ?_
      have hP := hP.sub (ws' := [(c0, .inr (1, [.ref cr, .int rev, .int v6]))] ++ []) [0] rfl
      have hD := hD.sub (ws' := [(c0, .inr (1, [.ref cr, .int rev, .int v6]))] ++ []) [0] (by decide) rfl
      refine xci (va_runV (As := [.ref ((pr kk).1 3), .int x, .int 1]) (rest := []) ⟨hx, hb, hml, hown, hts⟩ (kX0_follow1 l E c0 cr rev v6 ci N ra pr kk x (by first | assumption | omega) (by first | assumption | omega) (by first | assumption | omega) (by first | assumption | omega) H.size) (cwV 3 hts gX0_search_X0_followDelegations rfl rfl rfl (by decide +kernel) ⟨Nat.le_of_ble_eq_true rfl, Nat.le_of_ble_eq_true rfl⟩) ⟨CP.blind, (va_recv hev.1 hP.left (ci := 1) (q0 := 0) rfl rfl), (xpreT (X := rowsW E N ra pr) hev hz hA hP hD hS hR0 hap [13] rfl (fun q9 h9 => List.mem_append_right _ h9))⟩ rfl rfl hl.1 rfl (lv_room (Nat.le_of_ble_eq_true rfl)) dX0_search_51 ⟨Nat.le_of_ble_eq_true rfl, Nat.le_of_ble_eq_true rfl⟩) hP hD hS hA (fun r11 w12 H locs h13 hP hD hS => ?_)
      obtain ⟨sea214, rfl, rfl, h13⟩ := h13
      try dsimp only at h13
      have hP : va_P E.1 vwCl [(c0, .inr (1, [.ref cr, .int rev, .int sea214]))] H := hP
      have hD : va_D A [(c0, .inr (1, [.ref cr, .int rev, .int sea214]))] := hD
      refine xri hx hb hr hlocks hP hD hS ⟨sea214, rfl, ?_, ?_⟩ dX0_search_54
      · rw [ev6]
        exact (congrArg Prod.fst (srF_go (m := sea) 8 o4 kc10)).symm
      · rw [ev6] at h13
        exact h13.trans (congrArg Prod.snd (srF_go (m := sea) 8 o4 kc10)).symm
    · skip
      have kc10 := b1_n.mp c10
      refine lv_iload_n hx hb dX0_search_41 rfl (lv_at hl 2 rfl) ?_
      refine xri hx hb hr hlocks hP hD hS ⟨v6, rfl, ?_, ?_⟩ dX0_search_42
      · exact (congrArg Prod.fst (srF_hit (m := sea) 8 o4 kc10)).symm
      · rw [ev6]
        exact (congrArg Prod.snd (srF_hit (m := sea) 8 o4 kc10)).symm

abbrev pX0_follow0 (E : xE) (c0 : Nat) (cr : Nat) (rev : Int32) (sea : Int32) (ci : Nat → Option Nat) (N : Nat) (ra : Nat → Nat) (pr : Nat → RowP) (k : Nat) (x : Int32) (r : Int32) (w : va_W) : Prop := ∃ (sea2 : Int32), w = [(c0, .inr (1, [.ref cr, .int rev, .int sea2]))] ∧ r = (folF (srF ci pr x 9) (pr k) x ((pr k).1 16) 0 sea).1 ∧ (sea2 = (folF (srF ci pr x 9) (pr k) x ((pr k).1 16) 0 sea).2)
set_option maxHeartbeats 4000000 in
set_option maxRecDepth 100000 in
theorem kX0_follow0 (l : Launch) (E : xE) (c0 : Nat) (cr : Nat) (rev : Int32) (sea : Int32) (ci : Nat → Option Nat) (N : Nat) (ra : Nat → Nat) (pr : Nat → RowP) (k : Nat) (x : Int32) (hk : k < N) (hok : ∀ i, i < N → rOk (pr i)) (hci : ∀ j i, ci j = some i → i < N) (hto : ∀ k, k < N → ∀ i, i < (pr k).1 16 → isN ((pr k).2.2.2 6 i) 10) : KT l yX0_followDelegations wsX0_followDelegations 21 521 0 0 E [(c0, .inr (1, [.ref cr, .int rev, .int sea]))] ([(cr, aR E 10 (fun j => (ci j).map ra))] ++ rowsW E N ra pr) [.ref c0, .ref ((pr k).1 3), .int x, .int 0] (QI E (pX0_follow0 E c0 cr rev sea ci N ra pr k x)) := by
  refine KT.start (cc := cX0_followDelegations) (maxL := 7) (ret := (some .int)) (by decide) rfl (Nat.le_of_ble_eq_true rfl) ?_
  intro p e s m below meth c A H hx hb hr hlocks hml hts hown hin hP hR0 hD hap hev hz hA hS ls hl
  have hl : lv_has ls 7 [(0, .ref c0), (1, .ref ((pr k).1 3)), (2, .int x), (3, .int 0)] := hl
  have hiX1 : ∀ w ∈ wsX10, w ∈ wsX0_followDelegations := by decide +kernel
  have hiniX7 := hts (.initialized RX7) (by decide +kernel)
  have hstX7_fits := hts (.static yX7_fits) (by decide +kernel)
  have hi9 := hk
  have hap := xmoreA (L := [(ra k, .inr (5, [.int ((pr k).2.1 0), .int (nI ((pr k).1 17)), .int ((pr k).2.1 1), .long ((pr k).2.2.1), .ref ((pr k).1 0), .int (nI ((pr k).1 12)), .ref ((pr k).1 1), .ref ((pr k).1 2), .ref ((pr k).1 3), .ref ((pr k).1 4), .int (nI ((pr k).1 13)), .int (nI ((pr k).1 14)), .int ((pr k).2.1 2)])), ((pr k).1 0, aB E 16 ((pr k).2.2.2 0)), ((pr k).1 1, .inr (4, [.ref ((pr k).1 5), .ref ((pr k).1 6)])), ((pr k).1 5, aI E 10 ((pr k).2.2.2 1)), ((pr k).1 6, aI E 10 ((pr k).2.2.2 2)), ((pr k).1 2, .inr (7, [.ref ((pr k).1 7), .ref ((pr k).1 8), .int (nI ((pr k).1 15))])), ((pr k).1 7, aI E 7 ((pr k).2.2.2 3)), ((pr k).1 8, aI E 7 ((pr k).2.2.2 4)), ((pr k).1 3, .inr (2, [.ref ((pr k).1 9), .ref ((pr k).1 10), .ref ((pr k).1 11), .int (nI ((pr k).1 16))])), ((pr k).1 9, aI E 6 ((pr k).2.2.2 5)), ((pr k).1 10, aI E 6 ((pr k).2.2.2 6)), ((pr k).1 11, aZ E 6 ((pr k).2.2.2 7)), ((pr k).1 4, aI E 6 ((pr k).2.2.2 8))]) hap (fun q9 h9 => List.mem_append_right _ (rowsW_mem (E := E) (ra := ra) (pr := pr) (hk) q9 h9))
  have hR0 := xmore (L := [(ra k, .inr (5, [.int ((pr k).2.1 0), .int (nI ((pr k).1 17)), .int ((pr k).2.1 1), .long ((pr k).2.2.1), .ref ((pr k).1 0), .int (nI ((pr k).1 12)), .ref ((pr k).1 1), .ref ((pr k).1 2), .ref ((pr k).1 3), .ref ((pr k).1 4), .int (nI ((pr k).1 13)), .int (nI ((pr k).1 14)), .int ((pr k).2.1 2)])), ((pr k).1 0, aB E 16 ((pr k).2.2.2 0)), ((pr k).1 1, .inr (4, [.ref ((pr k).1 5), .ref ((pr k).1 6)])), ((pr k).1 5, aI E 10 ((pr k).2.2.2 1)), ((pr k).1 6, aI E 10 ((pr k).2.2.2 2)), ((pr k).1 2, .inr (7, [.ref ((pr k).1 7), .ref ((pr k).1 8), .int (nI ((pr k).1 15))])), ((pr k).1 7, aI E 7 ((pr k).2.2.2 3)), ((pr k).1 8, aI E 7 ((pr k).2.2.2 4)), ((pr k).1 3, .inr (2, [.ref ((pr k).1 9), .ref ((pr k).1 10), .ref ((pr k).1 11), .int (nI ((pr k).1 16))])), ((pr k).1 9, aI E 6 ((pr k).2.2.2 5)), ((pr k).1 10, aI E 6 ((pr k).2.2.2 6)), ((pr k).1 11, aZ E 6 ((pr k).2.2.2 7)), ((pr k).1 4, aI E 6 ((pr k).2.2.2 8))]) hR0 (fun q9 h9 => List.mem_append_right _ (rowsW_mem (E := E) (ra := ra) (pr := pr) (hk) q9 h9))
  have hap : ∀ q ∈ ([(ra k, .inr (5, [.int ((pr k).2.1 0), .int (nI ((pr k).1 17)), .int ((pr k).2.1 1), .long ((pr k).2.2.1), .ref ((pr k).1 0), .int (nI ((pr k).1 12)), .ref ((pr k).1 1), .ref ((pr k).1 2), .ref ((pr k).1 3), .ref ((pr k).1 4), .int (nI ((pr k).1 13)), .int (nI ((pr k).1 14)), .int ((pr k).2.1 2)])), ((pr k).1 0, aB E 16 ((pr k).2.2.2 0)), ((pr k).1 1, .inr (4, [.ref ((pr k).1 5), .ref ((pr k).1 6)])), ((pr k).1 5, aI E 10 ((pr k).2.2.2 1)), ((pr k).1 6, aI E 10 ((pr k).2.2.2 2)), ((pr k).1 2, .inr (7, [.ref ((pr k).1 7), .ref ((pr k).1 8), .int (nI ((pr k).1 15))])), ((pr k).1 7, aI E 7 ((pr k).2.2.2 3)), ((pr k).1 8, aI E 7 ((pr k).2.2.2 4)), ((pr k).1 3, .inr (2, [.ref ((pr k).1 9), .ref ((pr k).1 10), .ref ((pr k).1 11), .int (nI ((pr k).1 16))])), ((pr k).1 9, aI E 6 ((pr k).2.2.2 5)), ((pr k).1 10, aI E 6 ((pr k).2.2.2 6)), ((pr k).1 11, aZ E 6 ((pr k).2.2.2 7)), ((pr k).1 4, aI E 6 ((pr k).2.2.2 8)), (cr, aR E 10 (fun j => (ci j).map ra))] ++ rowsW E N ra pr), ¬ A q.1 := hap
  have hR0 : va_P E.1 vwCl ([(ra k, .inr (5, [.int ((pr k).2.1 0), .int (nI ((pr k).1 17)), .int ((pr k).2.1 1), .long ((pr k).2.2.1), .ref ((pr k).1 0), .int (nI ((pr k).1 12)), .ref ((pr k).1 1), .ref ((pr k).1 2), .ref ((pr k).1 3), .ref ((pr k).1 4), .int (nI ((pr k).1 13)), .int (nI ((pr k).1 14)), .int ((pr k).2.1 2)])), ((pr k).1 0, aB E 16 ((pr k).2.2.2 0)), ((pr k).1 1, .inr (4, [.ref ((pr k).1 5), .ref ((pr k).1 6)])), ((pr k).1 5, aI E 10 ((pr k).2.2.2 1)), ((pr k).1 6, aI E 10 ((pr k).2.2.2 2)), ((pr k).1 2, .inr (7, [.ref ((pr k).1 7), .ref ((pr k).1 8), .int (nI ((pr k).1 15))])), ((pr k).1 7, aI E 7 ((pr k).2.2.2 3)), ((pr k).1 8, aI E 7 ((pr k).2.2.2 4)), ((pr k).1 3, .inr (2, [.ref ((pr k).1 9), .ref ((pr k).1 10), .ref ((pr k).1 11), .int (nI ((pr k).1 16))])), ((pr k).1 9, aI E 6 ((pr k).2.2.2 5)), ((pr k).1 10, aI E 6 ((pr k).2.2.2 6)), ((pr k).1 11, aZ E 6 ((pr k).2.2.2 7)), ((pr k).1 4, aI E 6 ((pr k).2.2.2 8)), (cr, aR E 10 (fun j => (ci j).map ra))] ++ rowsW E N ra pr) s.heap := hR0
  have hltk : k < N := hk
  obtain ⟨o12k, o13k, o14k, o15k, o16k, o17k⟩ := hok k (hk)
  refine lv_iconst (v := 0) hx hb dX0_followDelegations_0 (by decide) ?_
  refine lv_istore (lv' := [(4, .int 0), (0, .ref c0), (1, .ref ((pr k).1 3)), (2, .int x), (3, .int 0)]) hx hb dX0_followDelegations_1 hl (by decide) rfl (fun ls hl => ?_)
  have loop3 : ∀ (fz3 : Nat) (i : Nat) (m9 : Int32), (i ≤ (pr k).1 16) → (folF (srF ci pr x 9) (pr k) x ((pr k).1 16 - i) i m9 = folF (srF ci pr x 9) (pr k) x ((pr k).1 16) 0 sea) → ((pr k).1 16 - i < fz3) → ∀ (H : Heap) (locs : List Loc), va_P E.1 vwCl [(c0, .inr (1, [.ref cr, .int rev, .int m9]))] H → va_D A [(c0, .inr (1, [.ref cr, .int rev, .int m9]))] → va_S A s.heap H locs → ∀ ls : Array Slot, lv_has ls 7 [(4, .int (nI i)), (0, .ref c0), (1, .ref ((pr k).1 3)), (2, .int x), (3, .int 0)] → W p l e ({ frames := 21, cells := 0, slots := 0, locals := 521 } : Room) s m ([.ref c0, .ref ((pr k).1 3), .int x, .int 0] : List Value).toArray below meth c H locs 0 0 (MQ below (QI E (pX0_follow0 E c0 cr rev sea ci N ra pr k x) A) ([.ref c0, .ref ((pr k).1 3), .int x, .int 0] : List Value).toArray s 0 0 A) (F0 m 3 ls []) := by
    intro fz3
    induction fz3 with
    | zero =>
      intro i m9 hi he hfuel
      exact absurd hfuel (by omega)
    | succ fz3 ih3 =>
      intro i m9 hi he hfuel H locs hP hD hS ls hl
      refine lv_iload hx hb dX0_followDelegations_3 (lv_at hl 0 rfl) ?_
      refine lv_aload_n hx hb dX0_followDelegations_5 rfl (lv_at hl 2 rfl) ?_
      refine va_getN (D := E.1) (ci := 2) (v := .int (nI ((pr k).1 16))) (C := RX1) (T := TX1) (N := 4) hx hb hts hiX1 hown hev.1 (xro hR0 hap hS) 8 rfl rfl 3 (by decide) (xNF4 hev.2.1) (fun _ h9 => h9) rfl dX0_followDelegations_6 ?_
      refine lv_icmp_ge (tgt := 91) hx hb dX0_followDelegations_9 (by decide) (fun c1 => ?_) (fun c1 => ?_)
      · skip
        have kc1 : ((pr k).1 16) ≤ i := (nI_leI (a := ((pr k).1 16)) (b := i) (by omega) (by omega)).mp c1
        refine lv_iconst (v := (-1)) hx hb dX0_followDelegations_91 (by decide) ?_
        refine xri hx hb hr hlocks hP hD hS ⟨m9, rfl, ?_, ?_⟩ dX0_followDelegations_92
        · exact congrArg Prod.fst ((fo_end (by omega)).symm.trans he)
        · exact congrArg Prod.snd ((fo_end (by omega)).symm.trans he)
      · skip
        have kc1 : ¬ ((pr k).1 16) ≤ i := fun h9 => c1 ((nI_leI (a := ((pr k).1 16)) (b := i) (by omega) (by omega)).mpr h9)
        refine lv_aload_n hx hb dX0_followDelegations_12 rfl (lv_at hl 2 rfl) ?_
        refine va_getN (D := E.1) (ci := 2) (v := .ref ((pr k).1 9)) (C := RX1) (T := TX1) (N := 4) hx hb hts hiX1 hown hev.1 (xro hR0 hap hS) 8 rfl rfl 0 (by decide) (xNF1 hev.2.1) (fun _ h9 => h9) rfl dX0_followDelegations_13 ?_
        refine lv_iload hx hb dX0_followDelegations_16 (lv_at hl 0 rfl) ?_
        refine xiald (k := (i)) hx hb hev.1 (xro hR0 hap hS) 9 1 rfl rfl (by omega) (by decide) dX0_followDelegations_18 ?_
        refine lv_iload_n hx hb dX0_followDelegations_19 rfl (lv_at hl 3 rfl) ?_
        have hP := hP.sub (ws' := [] ++ [(c0, .inr (1, [.ref cr, .int rev, .int m9]))]) [0] rfl
        have hD := hD.sub (ws' := [] ++ [(c0, .inr (1, [.ref cr, .int rev, .int m9]))]) [0] (by decide) rfl
        refine xci (va_runSN (As := [.int (((pr k).2.2.2 5) i), .int x]) (rest := []) ⟨hx, hb, hml, hown, hts⟩ (kX7_fits l E (((pr k).2.2.2 5) i) x  H.size) ⟨va_cnB 2 hts gX0_followDelegations_X7_fits_n108 rfl rfl rfl (xNM6 hev.2.1) hiniX7 (by decide +kernel) ⟨Nat.le_of_ble_eq_true rfl, Nat.le_of_ble_eq_true rfl⟩, hstX7_fits, trivial⟩ ⟨CP.blind, (xpre hev hz hA hP hD hS hR0 hap [] rfl)⟩ rfl rfl hl.1 rfl (lv_room (Nat.le_of_ble_eq_true rfl)) dX0_followDelegations_20 ⟨Nat.le_of_ble_eq_true rfl, Nat.le_of_ble_eq_true rfl⟩) hP hD hS hA (fun r2 w3 H locs h4 hP hD hS => ?_)
        obtain ⟨rfl, rfl, h4⟩ := h4
        try dsimp only at h4
        have hP : va_P E.1 vwCl [(c0, .inr (1, [.ref cr, .int rev, .int m9]))] H := hP
        have hD : va_D A [(c0, .inr (1, [.ref cr, .int rev, .int m9]))] := hD
        refine lv_if_ne (tgt := 29) hx hb dX0_followDelegations_23 (by decide) (fun c5 => ?_) (fun c5 => ?_)
        · skip
          have kc5 := b1_n.mp c5
          refine lv_aload_n hx hb dX0_followDelegations_29 rfl (lv_at hl 2 rfl) ?_
          refine va_getN (D := E.1) (ci := 2) (v := .ref ((pr k).1 10)) (C := RX1) (T := TX1) (N := 4) hx hb hts hiX1 hown hev.1 (xro hR0 hap hS) 8 rfl rfl 1 (by decide) (xNF2 hev.2.1) (fun _ h9 => h9) rfl dX0_followDelegations_30 ?_
          refine lv_iload hx hb dX0_followDelegations_33 (lv_at hl 0 rfl) ?_
          refine xiald (k := (i)) hx hb hev.1 (xro hR0 hap hS) 10 1 rfl rfl (by omega) (by decide) dX0_followDelegations_35 ?_
          obtain ⟨to6, hto6, eto⟩ := hto k hk i (by omega)
          refine xtop (y := nI to6) (eto) ?_
          refine lv_istore (lv' := [(5, .int (nI to6)), (4, .int (nI i)), (0, .ref c0), (1, .ref ((pr k).1 3)), (2, .int x), (3, .int 0)]) hx hb dX0_followDelegations_36 hl (by decide) rfl (fun ls hl => ?_)
          refine lv_aload_n hx hb dX0_followDelegations_38 rfl (lv_at hl 2 rfl) ?_
          refine lv_iload hx hb dX0_followDelegations_39 (lv_at hl 0 rfl) ?_
          have hP := hP.sub (ws' := [] ++ [(c0, .inr (1, [.ref cr, .int rev, .int m9]))]) [0] rfl
          have hD := hD.sub (ws' := [] ++ [(c0, .inr (1, [.ref cr, .int rev, .int m9]))]) [0] (by decide) rfl
          refine xci (va_runV (As := [.int (nI to6)]) (rest := []) ⟨hx, hb, hml, hown, hts⟩ (kX0_isSearched l E c0 cr rev m9 (nI to6)  H.size) (cwV 1 hts gX0_followDelegations_X0_isSearched rfl rfl rfl (by decide +kernel) ⟨Nat.le_of_ble_eq_true rfl, Nat.le_of_ble_eq_true rfl⟩) ⟨CP.blind, (va_recv hev.1 hP (ci := 1) (q0 := 0) rfl rfl), (xpre hev hz hA hP hD hS hR0 hap [0] rfl)⟩ rfl rfl hl.1 rfl (lv_room (Nat.le_of_ble_eq_true rfl)) dX0_followDelegations_41 ⟨Nat.le_of_ble_eq_true rfl, Nat.le_of_ble_eq_true rfl⟩) hP hD hS hA (fun r7 w8 H locs h9 hP hD hS => ?_)
          obtain ⟨rfl, rfl, h9⟩ := h9
          try dsimp only at h9
          have hP : va_P E.1 vwCl [(c0, .inr (1, [.ref cr, .int rev, .int m9]))] H := hP
          have hD : va_D A [(c0, .inr (1, [.ref cr, .int rev, .int m9]))] := hD
          refine lv_if_eq (tgt := 51) hx hb dX0_followDelegations_44 (by decide) (fun c10 => ?_) (fun c10 => ?_)
          · skip
            have kc10 := b1_0.mp c10
            refine lv_aload_n hx hb dX0_followDelegations_51 rfl (lv_at hl 2 rfl) ?_
            refine lv_iload hx hb dX0_followDelegations_52 (lv_at hl 0 rfl) ?_
            refine lv_iload_n hx hb dX0_followDelegations_54 rfl (lv_at hl 4 rfl) ?_
            refine lv_iload_n hx hb dX0_followDelegations_55 rfl (lv_at hl 5 rfl) ?_
            refine lv_iconst (v := 1) hx hb dX0_followDelegations_56 (by decide) ?_
            refine lv_iadd hx hb dX0_followDelegations_57 ?_
            refine xtop (y := 1) (by decide) ?_
            have hP := hP.sub (ws' := [(c0, .inr (1, [.ref cr, .int rev, .int m9]))] ++ []) [0] rfl
            have hD := hD.sub (ws' := [(c0, .inr (1, [.ref cr, .int rev, .int m9]))] ++ []) [0] (by decide) rfl
            refine xci (va_runV (As := [.int (nI to6), .int x, .int 1]) (rest := []) ⟨hx, hb, hml, hown, hts⟩ (kX0_search1 l E c0 cr rev m9 ci N ra pr to6 x (by first | assumption | omega) (by first | assumption | omega) (by first | assumption | omega) (by first | assumption | omega) H.size) (cwV 3 hts gX0_followDelegations_X0_search rfl rfl rfl (by decide +kernel) ⟨Nat.le_of_ble_eq_true rfl, Nat.le_of_ble_eq_true rfl⟩) ⟨CP.blind, (va_recv hev.1 hP.left (ci := 1) (q0 := 0) rfl rfl), (xpreT (X := rowsW E N ra pr) hev hz hA hP hD hS hR0 hap [13] rfl (fun q9 h9 => List.mem_append_right _ h9))⟩ rfl rfl hl.1 rfl (lv_room (Nat.le_of_ble_eq_true rfl)) dX0_followDelegations_58 ⟨Nat.le_of_ble_eq_true rfl, Nat.le_of_ble_eq_true rfl⟩) hP hD hS hA (fun r11 w12 H locs h13 hP hD hS => ?_)
            obtain ⟨sea214, rfl, rfl, h13⟩ := h13
            try dsimp only at h13
            have hP : va_P E.1 vwCl [(c0, .inr (1, [.ref cr, .int rev, .int sea214]))] H := hP
            have hD : va_D A [(c0, .inr (1, [.ref cr, .int rev, .int sea214]))] := hD
            refine lv_istore (lv' := [(6, .int ((srF ci pr x 9 to6 m9).1)), (5, .int (nI to6)), (4, .int (nI i)), (0, .ref c0), (1, .ref ((pr k).1 3)), (2, .int x), (3, .int 0)]) hx hb dX0_followDelegations_61 hl (by decide) rfl (fun ls hl => ?_)
            refine lv_iload hx hb dX0_followDelegations_63 (lv_at hl 0 rfl) ?_
            refine lv_iconst (v := (-1)) hx hb dX0_followDelegations_65 (by decide) ?_
            refine lv_icmp_eq (tgt := 72) hx hb dX0_followDelegations_66 (by decide) (fun c15 => ?_) (fun c15 => ?_)
            · skip
              refine lv_aload_n hx hb dX0_followDelegations_72 rfl (lv_at hl 4 rfl) ?_
              refine va_getN (D := E.1) (ci := 2) (v := .ref ((pr k).1 11)) (C := RX1) (T := TX1) (N := 4) hx hb hts hiX1 hown hev.1 (xro hR0 hap hS) 8 rfl rfl 2 (by decide) (xNF3 hev.2.1) (fun _ h9 => h9) rfl dX0_followDelegations_73 ?_
              refine lv_iload hx hb dX0_followDelegations_76 (lv_at hl 2 rfl) ?_
              refine xzald (k := (i)) hx hb hev.1 (xro hR0 hap hS) 11 3 rfl rfl (by omega) (by decide) dX0_followDelegations_78 ?_
              refine lv_if_eq (tgt := 85) hx hb dX0_followDelegations_79 (by decide) (fun c16 => ?_) (fun c16 => ?_)
              · skip
                refine lv_iinc (v := nI (i + 1)) (lv' := [(4, .int (nI (i + 1))), (6, .int ((srF ci pr x 9 to6 m9).1)), (5, .int (nI to6)), (0, .ref c0), (1, .ref ((pr k).1 3)), (2, .int x), (3, .int 0)]) hx hb dX0_followDelegations_85 hl (k := 2) rfl ((nI_add i 1).trans (congrArg nI (by omega))) (by decide) rfl (fun ls hl => ?_)
                refine lv_goto (tgt := 3) hx hb dX0_followDelegations_88 (by decide) ?_
                exact ih3  (i + 1) sea214 (by omega) (((fo_next (a := (srF ci pr x 9 to6 m9)) (by omega) kc5 (by rw [eto]; exact nI_clamp (by omega)) (pk2_f kc10) c15 c16).trans (by rw [← h13])).symm.trans he) (by omega) _ _ hP hD hS ls (lv_sub hl [0, 3, 4, 5, 6] rfl)
              · skip
                refine lv_bipush (v := (-2)) hx hb dX0_followDelegations_82 (by decide) ?_
                refine xri hx hb hr hlocks hP hD hS ⟨sea214, rfl, ?_, ?_⟩ dX0_followDelegations_84
                · exact congrArg Prod.fst ((fo_over (a := (srF ci pr x 9 to6 m9)) (by omega) kc5 (by rw [eto]; exact nI_clamp (by omega)) (pk2_f kc10) c15 c16).symm.trans he)
                · have q9 := congrArg Prod.snd ((fo_over (a := (srF ci pr x 9 to6 m9)) (by omega) kc5 (by rw [eto]; exact nI_clamp (by omega)) (pk2_f kc10) c15 c16).symm.trans he)
                  exact h13.trans q9
            · skip
              refine lv_iload hx hb dX0_followDelegations_69 (lv_at hl 0 rfl) ?_
              refine xri hx hb hr hlocks hP hD hS ⟨sea214, rfl, ?_, ?_⟩ dX0_followDelegations_71
              · exact (congrArg Prod.fst ((fo_hit (a := (srF ci pr x 9 to6 m9)) (by omega) kc5 (by rw [eto]; exact nI_clamp (by omega)) (pk2_f kc10) c15).symm.trans he))
              · exact h13.trans (congrArg Prod.snd ((fo_hit (a := (srF ci pr x 9 to6 m9)) (by omega) kc5 (by rw [eto]; exact nI_clamp (by omega)) (pk2_f kc10) c15).symm.trans he))
          · skip
            have kc10 := b1_n.mp c10
            refine lv_iconst (v := (-1)) hx hb dX0_followDelegations_47 (by decide) ?_
            refine lv_goto (tgt := 61) hx hb dX0_followDelegations_48 (by decide) ?_
            refine lv_istore (lv' := [(6, .int (-1)), (5, .int (nI to6)), (4, .int (nI i)), (0, .ref c0), (1, .ref ((pr k).1 3)), (2, .int x), (3, .int 0)]) hx hb dX0_followDelegations_61 hl (by decide) rfl (fun ls hl => ?_)
            refine lv_iload hx hb dX0_followDelegations_63 (lv_at hl 0 rfl) ?_
            refine lv_iconst (v := (-1)) hx hb dX0_followDelegations_65 (by decide) ?_
            refine lv_icmp_eq (tgt := 72) hx hb dX0_followDelegations_66 (by decide) (fun c17 => ?_) (fun c17 => absurd (by decide) c17)
            refine lv_aload_n hx hb dX0_followDelegations_72 rfl (lv_at hl 4 rfl) ?_
            refine va_getN (D := E.1) (ci := 2) (v := .ref ((pr k).1 11)) (C := RX1) (T := TX1) (N := 4) hx hb hts hiX1 hown hev.1 (xro hR0 hap hS) 8 rfl rfl 2 (by decide) (xNF3 hev.2.1) (fun _ h9 => h9) rfl dX0_followDelegations_73 ?_
            refine lv_iload hx hb dX0_followDelegations_76 (lv_at hl 2 rfl) ?_
            refine xzald (k := (i)) hx hb hev.1 (xro hR0 hap hS) 11 3 rfl rfl (by omega) (by decide) dX0_followDelegations_78 ?_
            refine lv_if_eq (tgt := 85) hx hb dX0_followDelegations_79 (by decide) (fun c18 => ?_) (fun c18 => ?_)
            · skip
              refine lv_iinc (v := nI (i + 1)) (lv' := [(4, .int (nI (i + 1))), (6, .int (-1)), (5, .int (nI to6)), (0, .ref c0), (1, .ref ((pr k).1 3)), (2, .int x), (3, .int 0)]) hx hb dX0_followDelegations_85 hl (k := 2) rfl ((nI_add i 1).trans (congrArg nI (by omega))) (by decide) rfl (fun ls hl => ?_)
              refine lv_goto (tgt := 3) hx hb dX0_followDelegations_88 (by decide) ?_
              exact ih3  (i + 1) m9 (by omega) ((fo_next (a := (-1, m9)) (by omega) kc5 (by rw [eto]; exact nI_clamp (by omega)) (pk2_t kc10) rfl c18).symm.trans he) (by omega) _ _ hP hD hS ls (lv_sub hl [0, 3, 4, 5, 6] rfl)
            · skip
              refine lv_bipush (v := (-2)) hx hb dX0_followDelegations_82 (by decide) ?_
              refine xri hx hb hr hlocks hP hD hS ⟨m9, rfl, ?_, ?_⟩ dX0_followDelegations_84
              · exact congrArg Prod.fst ((fo_over (a := (-1, m9)) (by omega) kc5 (by rw [eto]; exact nI_clamp (by omega)) (pk2_t kc10) rfl c18).symm.trans he)
              · exact congrArg Prod.snd ((fo_over (a := (-1, m9)) (by omega) kc5 (by rw [eto]; exact nI_clamp (by omega)) (pk2_t kc10) rfl c18).symm.trans he)
        · skip
          have kc5 := b1_0.mp c5
          refine lv_goto (tgt := 85) hx hb dX0_followDelegations_26 (by decide) ?_
          refine lv_iinc (v := nI (i + 1)) (lv' := [(4, .int (nI (i + 1))), (0, .ref c0), (1, .ref ((pr k).1 3)), (2, .int x), (3, .int 0)]) hx hb dX0_followDelegations_85 hl (k := 0) rfl ((nI_add i 1).trans (congrArg nI (by omega))) (by decide) rfl (fun ls hl => ?_)
          refine lv_goto (tgt := 3) hx hb dX0_followDelegations_88 (by decide) ?_
          exact ih3  (i + 1) m9 (by omega) ((fo_skip (by omega) kc5).symm.trans he) (by omega) _ _ hP hD hS ls (lv_sub hl [0, 1, 2, 3, 4] rfl)
  exact loop3 ((pr k).1 16 + 1) 0 sea (by omega) (rfl) (by omega) _ _ hP hD hS ls (lv_sub hl [0, 1, 2, 3, 4] rfl)

abbrev pX0_search0 (E : xE) (c0 : Nat) (cr : Nat) (rev : Int32) (sea : Int32) (ci : Nat → Option Nat) (N : Nat) (ra : Nat → Nat) (pr : Nat → RowP) (rl : Nat) (x : Int32) (r : Int32) (w : va_W) : Prop := ∃ (sea2 : Int32), w = [(c0, .inr (1, [.ref cr, .int rev, .int sea2]))] ∧ r = (srF ci pr x 10 rl sea).1 ∧ (sea2 = (srF ci pr x 10 rl sea).2)
set_option maxHeartbeats 4000000 in
set_option maxRecDepth 100000 in
theorem kX0_search0 (l : Launch) (E : xE) (c0 : Nat) (cr : Nat) (rev : Int32) (sea : Int32) (ci : Nat → Option Nat) (N : Nat) (ra : Nat → Nat) (pr : Nat → RowP) (rl : Nat) (x : Int32) (hrl : rl < 10) (hok : ∀ i, i < N → rOk (pr i)) (hci : ∀ j i, ci j = some i → i < N) (hto : ∀ k, k < N → ∀ i, i < (pr k).1 16 → isN ((pr k).2.2.2 6 i) 10) : KT l yX0_search wsX0_search 22 547 0 0 E [(c0, .inr (1, [.ref cr, .int rev, .int sea]))] ([(cr, aR E 10 (fun j => (ci j).map ra))] ++ rowsW E N ra pr) [.ref c0, .int (nI rl), .int x, .int 0] (QI E (pX0_search0 E c0 cr rev sea ci N ra pr rl x)) := by
  refine KT.start (cc := cX0_search) (maxL := 5) (ret := (some .int)) (by decide) rfl (Nat.le_of_ble_eq_true rfl) ?_
  intro p e s m below meth c A H hx hb hr hlocks hml hts hown hin hP hR0 hD hap hev hz hA hS ls hl
  have hl : lv_has ls 5 [(0, .ref c0), (1, .int (nI rl)), (2, .int x), (3, .int 0)] := hl
  have hiX0 : ∀ w ∈ wsX00, w ∈ wsX0_search := by decide +kernel
  have hiX4 : ∀ w ∈ wsX40, w ∈ wsX0_search := by decide +kernel
  have hf21 := hts (.fieldLink RX0 21 "SignQuorum$Client" "searchedRoles" "I") (by decide +kernel)
  refine lv_aload_n hx hb dX0_search_0 rfl (lv_at hl 0 rfl) ?_
  refine lv_iload_n hx hb dX0_search_1 rfl (lv_at hl 1 rfl) ?_
  have hP := hP.sub (ws' := [] ++ [(c0, .inr (1, [.ref cr, .int rev, .int sea]))]) [0] rfl
  have hD := hD.sub (ws' := [] ++ [(c0, .inr (1, [.ref cr, .int rev, .int sea]))]) [0] (by decide) rfl
  refine xcr (va_runV (As := [.int (nI rl)]) (rest := []) ⟨hx, hb, hml, hown, hts⟩ (kX0_currentOfJ l E c0 cr rev sea ci ra rl (by first | assumption | omega) H.size) (cwV 1 hts gX0_search_X0_currentOf rfl rfl rfl (by decide +kernel) ⟨Nat.le_of_ble_eq_true rfl, Nat.le_of_ble_eq_true rfl⟩) ⟨CP.blind, (va_recv hev.1 hP (ci := 1) (q0 := 0) rfl rfl), (xpre hev hz hA hP hD hS hR0 hap [0, 1] rfl)⟩ rfl rfl hl.1 rfl (lv_room (Nat.le_of_ble_eq_true rfl)) dX0_search_2 ⟨Nat.le_of_ble_eq_true rfl, Nat.le_of_ble_eq_true rfl⟩) hP hD hS hA (fun r1 w2 H locs h3 hP hD hS => ?_)
  obtain ⟨rfl, rfl, h3⟩ := h3
  try dsimp only at h3
  have hP : va_P E.1 vwCl [(c0, .inr (1, [.ref cr, .int rev, .int sea]))] H := hP
  have hD : va_D A [(c0, .inr (1, [.ref cr, .int rev, .int sea]))] := hD
  cases o4 : ci rl with
  | none =>
    refine lv_astoreN (lv' := [(4, .null), (0, .ref c0), (1, .int (nI rl)), (2, .int x), (3, .int 0)]) hx hb dX0_search_5 hl (by decide) rfl (fun ls hl => ?_)
    refine lv_aloadN hx hb dX0_search_7 (lv_at hl 0 rfl) ?_
    refine lv_ifnullN (tgt := 18) hx hb dX0_search_9 (by decide) ?_
    refine lv_iconst (v := (-1)) hx hb dX0_search_18 (by decide) ?_
    refine xri hx hb hr hlocks hP hD hS ⟨sea, rfl, ?_, ?_⟩ dX0_search_19
    · exact (congrArg Prod.fst (srF_none o4 10)).symm
    · exact (congrArg Prod.snd (srF_none o4 10)).symm
  | some kk =>
    have hap := xmoreA (L := [(ra kk, .inr (5, [.int ((pr kk).2.1 0), .int (nI ((pr kk).1 17)), .int ((pr kk).2.1 1), .long ((pr kk).2.2.1), .ref ((pr kk).1 0), .int (nI ((pr kk).1 12)), .ref ((pr kk).1 1), .ref ((pr kk).1 2), .ref ((pr kk).1 3), .ref ((pr kk).1 4), .int (nI ((pr kk).1 13)), .int (nI ((pr kk).1 14)), .int ((pr kk).2.1 2)])), ((pr kk).1 0, aB E 16 ((pr kk).2.2.2 0)), ((pr kk).1 1, .inr (4, [.ref ((pr kk).1 5), .ref ((pr kk).1 6)])), ((pr kk).1 5, aI E 10 ((pr kk).2.2.2 1)), ((pr kk).1 6, aI E 10 ((pr kk).2.2.2 2)), ((pr kk).1 2, .inr (7, [.ref ((pr kk).1 7), .ref ((pr kk).1 8), .int (nI ((pr kk).1 15))])), ((pr kk).1 7, aI E 7 ((pr kk).2.2.2 3)), ((pr kk).1 8, aI E 7 ((pr kk).2.2.2 4)), ((pr kk).1 3, .inr (2, [.ref ((pr kk).1 9), .ref ((pr kk).1 10), .ref ((pr kk).1 11), .int (nI ((pr kk).1 16))])), ((pr kk).1 9, aI E 6 ((pr kk).2.2.2 5)), ((pr kk).1 10, aI E 6 ((pr kk).2.2.2 6)), ((pr kk).1 11, aZ E 6 ((pr kk).2.2.2 7)), ((pr kk).1 4, aI E 6 ((pr kk).2.2.2 8))]) hap (fun q9 h9 => List.mem_append_right _ (rowsW_mem (E := E) (ra := ra) (pr := pr) (hci _ _ o4) q9 h9))
    have hR0 := xmore (L := [(ra kk, .inr (5, [.int ((pr kk).2.1 0), .int (nI ((pr kk).1 17)), .int ((pr kk).2.1 1), .long ((pr kk).2.2.1), .ref ((pr kk).1 0), .int (nI ((pr kk).1 12)), .ref ((pr kk).1 1), .ref ((pr kk).1 2), .ref ((pr kk).1 3), .ref ((pr kk).1 4), .int (nI ((pr kk).1 13)), .int (nI ((pr kk).1 14)), .int ((pr kk).2.1 2)])), ((pr kk).1 0, aB E 16 ((pr kk).2.2.2 0)), ((pr kk).1 1, .inr (4, [.ref ((pr kk).1 5), .ref ((pr kk).1 6)])), ((pr kk).1 5, aI E 10 ((pr kk).2.2.2 1)), ((pr kk).1 6, aI E 10 ((pr kk).2.2.2 2)), ((pr kk).1 2, .inr (7, [.ref ((pr kk).1 7), .ref ((pr kk).1 8), .int (nI ((pr kk).1 15))])), ((pr kk).1 7, aI E 7 ((pr kk).2.2.2 3)), ((pr kk).1 8, aI E 7 ((pr kk).2.2.2 4)), ((pr kk).1 3, .inr (2, [.ref ((pr kk).1 9), .ref ((pr kk).1 10), .ref ((pr kk).1 11), .int (nI ((pr kk).1 16))])), ((pr kk).1 9, aI E 6 ((pr kk).2.2.2 5)), ((pr kk).1 10, aI E 6 ((pr kk).2.2.2 6)), ((pr kk).1 11, aZ E 6 ((pr kk).2.2.2 7)), ((pr kk).1 4, aI E 6 ((pr kk).2.2.2 8))]) hR0 (fun q9 h9 => List.mem_append_right _ (rowsW_mem (E := E) (ra := ra) (pr := pr) (hci _ _ o4) q9 h9))
    have hap : ∀ q ∈ ([(ra kk, .inr (5, [.int ((pr kk).2.1 0), .int (nI ((pr kk).1 17)), .int ((pr kk).2.1 1), .long ((pr kk).2.2.1), .ref ((pr kk).1 0), .int (nI ((pr kk).1 12)), .ref ((pr kk).1 1), .ref ((pr kk).1 2), .ref ((pr kk).1 3), .ref ((pr kk).1 4), .int (nI ((pr kk).1 13)), .int (nI ((pr kk).1 14)), .int ((pr kk).2.1 2)])), ((pr kk).1 0, aB E 16 ((pr kk).2.2.2 0)), ((pr kk).1 1, .inr (4, [.ref ((pr kk).1 5), .ref ((pr kk).1 6)])), ((pr kk).1 5, aI E 10 ((pr kk).2.2.2 1)), ((pr kk).1 6, aI E 10 ((pr kk).2.2.2 2)), ((pr kk).1 2, .inr (7, [.ref ((pr kk).1 7), .ref ((pr kk).1 8), .int (nI ((pr kk).1 15))])), ((pr kk).1 7, aI E 7 ((pr kk).2.2.2 3)), ((pr kk).1 8, aI E 7 ((pr kk).2.2.2 4)), ((pr kk).1 3, .inr (2, [.ref ((pr kk).1 9), .ref ((pr kk).1 10), .ref ((pr kk).1 11), .int (nI ((pr kk).1 16))])), ((pr kk).1 9, aI E 6 ((pr kk).2.2.2 5)), ((pr kk).1 10, aI E 6 ((pr kk).2.2.2 6)), ((pr kk).1 11, aZ E 6 ((pr kk).2.2.2 7)), ((pr kk).1 4, aI E 6 ((pr kk).2.2.2 8)), (cr, aR E 10 (fun j => (ci j).map ra))] ++ rowsW E N ra pr), ¬ A q.1 := hap
    have hR0 : va_P E.1 vwCl ([(ra kk, .inr (5, [.int ((pr kk).2.1 0), .int (nI ((pr kk).1 17)), .int ((pr kk).2.1 1), .long ((pr kk).2.2.1), .ref ((pr kk).1 0), .int (nI ((pr kk).1 12)), .ref ((pr kk).1 1), .ref ((pr kk).1 2), .ref ((pr kk).1 3), .ref ((pr kk).1 4), .int (nI ((pr kk).1 13)), .int (nI ((pr kk).1 14)), .int ((pr kk).2.1 2)])), ((pr kk).1 0, aB E 16 ((pr kk).2.2.2 0)), ((pr kk).1 1, .inr (4, [.ref ((pr kk).1 5), .ref ((pr kk).1 6)])), ((pr kk).1 5, aI E 10 ((pr kk).2.2.2 1)), ((pr kk).1 6, aI E 10 ((pr kk).2.2.2 2)), ((pr kk).1 2, .inr (7, [.ref ((pr kk).1 7), .ref ((pr kk).1 8), .int (nI ((pr kk).1 15))])), ((pr kk).1 7, aI E 7 ((pr kk).2.2.2 3)), ((pr kk).1 8, aI E 7 ((pr kk).2.2.2 4)), ((pr kk).1 3, .inr (2, [.ref ((pr kk).1 9), .ref ((pr kk).1 10), .ref ((pr kk).1 11), .int (nI ((pr kk).1 16))])), ((pr kk).1 9, aI E 6 ((pr kk).2.2.2 5)), ((pr kk).1 10, aI E 6 ((pr kk).2.2.2 6)), ((pr kk).1 11, aZ E 6 ((pr kk).2.2.2 7)), ((pr kk).1 4, aI E 6 ((pr kk).2.2.2 8)), (cr, aR E 10 (fun j => (ci j).map ra))] ++ rowsW E N ra pr) s.heap := hR0
    have hltkk : kk < N := hci _ _ o4
    obtain ⟨o12kk, o13kk, o14kk, o15kk, o16kk, o17kk⟩ := hok kk (hci _ _ o4)
    refine lv_astore (lv' := [(4, .ref (ra kk)), (0, .ref c0), (1, .int (nI rl)), (2, .int x), (3, .int 0)]) hx hb dX0_search_5 hl (by decide) rfl (fun ls hl => ?_)
    refine lv_aload hx hb dX0_search_7 (lv_at hl 0 rfl) ?_
    refine lv_ifnull hx hb dX0_search_9 ?_
    refine lv_iload_n hx hb dX0_search_12 rfl (lv_at hl 4 rfl) ?_
    refine lv_bipush (v := 10) hx hb dX0_search_13 (by decide) ?_
    refine lv_icmp_lt (tgt := 20) hx hb dX0_search_15 (by decide) (fun c5 => ?_) (fun c5 => absurd (by decide) c5)
    refine lv_aload_n hx hb dX0_search_20 rfl (lv_at hl 1 rfl) ?_
    refine lv_dup hx hb dX0_search_21 rfl ?_
    refine va_get (D := E.1) (ci := 1) (v := .int sea) (C := RX0) (T := TX0) (N := 3) hx hb hts hiX0 hown hev.1 hP 0 rfl rfl 2 (by decide) hf21 (fun _ h9 => h9) rfl dX0_search_22 ?_
    refine lv_iconst (v := 1) hx hb dX0_search_25 (by decide) ?_
    refine lv_iload_n hx hb dX0_search_26 rfl (lv_at hl 2 rfl) ?_
    refine lv_ishl hx hb dX0_search_27 ?_
    refine lv_ior hx hb dX0_search_28 ?_
    refine lv_topi (fun v6 ev6 => ?_)
    refine va_put (D := E.1) (ci := 1) (v := .int v6) (ty := tyX0 2) (C := RX0) (T := TX0) (N := 3) hx hb hts hiX0 tyX0 tyX0_ok nmX0 hown hev.1 hP hD hS 0 rfl rfl 2 (by decide) hf21 (fun _ h9 => h9) rfl (tyX0_ok 2 (by decide)) rfl rfl (Nat.le_of_ble_eq_true rfl) dX0_search_29 (fun H locs hP hD hS => ?_)
    have hP : va_P E.1 vwCl [(c0, .inr (1, [.ref cr, .int rev, .int v6]))] H := hP
    have hD : va_D A [(c0, .inr (1, [.ref cr, .int rev, .int v6]))] := hD
    refine lv_aload hx hb dX0_search_32 (lv_at hl 0 rfl) ?_
    refine lv_iload_n hx hb dX0_search_34 rfl (lv_at hl 3 rfl) ?_
    have hP := hP.sub (ws' := [] ++ [(c0, .inr (1, [.ref cr, .int rev, .int v6]))]) [0] rfl
    have hD := hD.sub (ws' := [] ++ [(c0, .inr (1, [.ref cr, .int rev, .int v6]))]) [0] (by decide) rfl
    refine xci (va_runV (As := [.int x]) (rest := []) ⟨hx, hb, hml, hown, hts⟩ (kX4_hasPath l E (ra kk) ((pr kk).2.1 0) (nI ((pr kk).1 17)) ((pr kk).2.1 1) ((pr kk).2.2.1) ((pr kk).1 0) ((pr kk).1 12) ((pr kk).1 1) ((pr kk).1 2) ((pr kk).1 3) ((pr kk).1 4) ((pr kk).1 13) (nI ((pr kk).1 14)) ((pr kk).2.1 2) ((pr kk).2.2.2 8) x (by first | assumption | omega) H.size) (cwV 1 hts gX0_search_X4_hasPath rfl rfl rfl (by decide +kernel) ⟨Nat.le_of_ble_eq_true rfl, Nat.le_of_ble_eq_true rfl⟩) ⟨CP.blind, (va_recv hev.1 (xro hR0 hap hS) (ci := 5) (q0 := 0) rfl rfl), (xpre hev hz hA hP hD hS hR0 hap [1, 13] rfl)⟩ rfl rfl hl.1 rfl (lv_room (Nat.le_of_ble_eq_true rfl)) dX0_search_35 ⟨Nat.le_of_ble_eq_true rfl, Nat.le_of_ble_eq_true rfl⟩) hP hD hS hA (fun r7 w8 H locs h9 hP hD hS => ?_)
    obtain ⟨rfl, rfl, h9⟩ := h9
    try dsimp only at h9
    have hP : va_P E.1 vwCl [(c0, .inr (1, [.ref cr, .int rev, .int v6]))] H := hP
    have hD : va_D A [(c0, .inr (1, [.ref cr, .int rev, .int v6]))] := hD
    refine lv_if_eq (tgt := 43) hx hb dX0_search_38 (by decide) (fun c10 => ?_) (fun c10 => ?_)
    · skip
      have kc10 := b1_0.mp c10
      refine lv_aload_n hx hb dX0_search_43 rfl (lv_at hl 1 rfl) ?_
      refine lv_aload hx hb dX0_search_44 (lv_at hl 0 rfl) ?_
      refine va_getN (D := E.1) (ci := 5) (v := .ref ((pr kk).1 3)) (C := RX4) (T := TX4) (N := 13) hx hb hts hiX4 hown hev.1 (xro hR0 hap hS) 0 rfl rfl 8 (by decide) (xNF16 hev.2.1) (fun _ h9 => h9) rfl dX0_search_46 ?_
      refine lv_iload_n hx hb dX0_search_49 rfl (lv_at hl 3 rfl) ?_
      refine lv_iload_n hx hb dX0_search_50 rfl (lv_at hl 4 rfl) ?_
      have hP := hP.sub (ws' := [(c0, .inr (1, [.ref cr, .int rev, .int v6]))] ++ []) [0] rfl
      have hD := hD.sub (ws' := [(c0, .inr (1, [.ref cr, .int rev, .int v6]))] ++ []) [0] (by decide) rfl
      refine xci (va_runV (As := [.ref ((pr kk).1 3), .int x, .int 0]) (rest := []) ⟨hx, hb, hml, hown, hts⟩ (kX0_follow0 l E c0 cr rev v6 ci N ra pr kk x (by first | assumption | omega) (by first | assumption | omega) (by first | assumption | omega) (by first | assumption | omega) H.size) (cwV 3 hts gX0_search_X0_followDelegations rfl rfl rfl (by decide +kernel) ⟨Nat.le_of_ble_eq_true rfl, Nat.le_of_ble_eq_true rfl⟩) ⟨CP.blind, (va_recv hev.1 hP.left (ci := 1) (q0 := 0) rfl rfl), (xpreT (X := rowsW E N ra pr) hev hz hA hP hD hS hR0 hap [13] rfl (fun q9 h9 => List.mem_append_right _ h9))⟩ rfl rfl hl.1 rfl (lv_room (Nat.le_of_ble_eq_true rfl)) dX0_search_51 ⟨Nat.le_of_ble_eq_true rfl, Nat.le_of_ble_eq_true rfl⟩) hP hD hS hA (fun r11 w12 H locs h13 hP hD hS => ?_)
      obtain ⟨sea214, rfl, rfl, h13⟩ := h13
      try dsimp only at h13
      have hP : va_P E.1 vwCl [(c0, .inr (1, [.ref cr, .int rev, .int sea214]))] H := hP
      have hD : va_D A [(c0, .inr (1, [.ref cr, .int rev, .int sea214]))] := hD
      refine xri hx hb hr hlocks hP hD hS ⟨sea214, rfl, ?_, ?_⟩ dX0_search_54
      · rw [ev6]
        exact (congrArg Prod.fst (srF_go (m := sea) 9 o4 kc10)).symm
      · rw [ev6] at h13
        exact h13.trans (congrArg Prod.snd (srF_go (m := sea) 9 o4 kc10)).symm
    · skip
      have kc10 := b1_n.mp c10
      refine lv_iload_n hx hb dX0_search_41 rfl (lv_at hl 2 rfl) ?_
      refine xri hx hb hr hlocks hP hD hS ⟨v6, rfl, ?_, ?_⟩ dX0_search_42
      · exact (congrArg Prod.fst (srF_hit (m := sea) 9 o4 kc10)).symm
      · rw [ev6]
        exact (congrArg Prod.snd (srF_hit (m := sea) 9 o4 kc10)).symm

abbrev pX0_roleOfPath (E : xE) (c0 : Nat) (cr : Nat) (rev : Int32) (sea : Int32) (ci : Nat → Option Nat) (N : Nat) (ra : Nat → Nat) (pr : Nat → RowP) (u : Int32) (r : Int32) (w : va_W) : Prop := ∃ (sea2 : Int32), w = [(c0, .inr (1, [.ref cr, .int rev, .int sea2]))] ∧ r = fnd (srF ci pr u 10 3 0).1 ∧ (True)
set_option maxHeartbeats 4000000 in
set_option maxRecDepth 100000 in
theorem kX0_roleOfPath (l : Launch) (E : xE) (c0 : Nat) (cr : Nat) (rev : Int32) (sea : Int32) (ci : Nat → Option Nat) (N : Nat) (ra : Nat → Nat) (pr : Nat → RowP) (u : Int32) (hok : ∀ i, i < N → rOk (pr i)) (hci : ∀ j i, ci j = some i → i < N) (hto : ∀ k, k < N → ∀ i, i < (pr k).1 16 → isN ((pr k).2.2.2 6 i) 10) : KT l yX0_roleOfPath wsX0_roleOfPath 23 571 0 0 E [(c0, .inr (1, [.ref cr, .int rev, .int sea]))] ([(cr, aR E 10 (fun j => (ci j).map ra))] ++ rowsW E N ra pr) [.ref c0, .int u] (QI E (pX0_roleOfPath E c0 cr rev sea ci N ra pr u)) := by
  refine KT.start (cc := cX0_roleOfPath) (maxL := 3) (ret := (some .int)) (by decide) rfl (Nat.le_of_ble_eq_true rfl) ?_
  intro p e s m below meth c A H hx hb hr hlocks hml hts hown hin hP hR0 hD hap hev hz hA hS ls hl
  have hl : lv_has ls 3 [(0, .ref c0), (1, .int u)] := hl
  have hiX0 : ∀ w ∈ wsX00, w ∈ wsX0_roleOfPath := by decide +kernel
  have hf21 := hts (.fieldLink RX0 21 "SignQuorum$Client" "searchedRoles" "I") (by decide +kernel)
  refine lv_aload_n hx hb dX0_roleOfPath_0 rfl (lv_at hl 0 rfl) ?_
  refine lv_iconst (v := 0) hx hb dX0_roleOfPath_1 (by decide) ?_
  refine va_put (D := E.1) (ci := 1) (v := .int 0) (ty := tyX0 2) (C := RX0) (T := TX0) (N := 3) hx hb hts hiX0 tyX0 tyX0_ok nmX0 hown hev.1 hP hD hS 0 rfl rfl 2 (by decide) hf21 (fun _ h9 => h9) rfl (tyX0_ok 2 (by decide)) rfl rfl (Nat.le_of_ble_eq_true rfl) dX0_roleOfPath_2 (fun H locs hP hD hS => ?_)
  have hP : va_P E.1 vwCl [(c0, .inr (1, [.ref cr, .int rev, .int 0]))] H := hP
  have hD : va_D A [(c0, .inr (1, [.ref cr, .int rev, .int 0]))] := hD
  refine lv_aload_n hx hb dX0_roleOfPath_5 rfl (lv_at hl 0 rfl) ?_
  refine lv_iconst (v := 3) hx hb dX0_roleOfPath_6 (by decide) ?_
  refine lv_iload_n hx hb dX0_roleOfPath_7 rfl (lv_at hl 1 rfl) ?_
  refine lv_iconst (v := 0) hx hb dX0_roleOfPath_8 (by decide) ?_
  have hP := hP.sub (ws' := [(c0, .inr (1, [.ref cr, .int rev, .int 0]))] ++ []) [0] rfl
  have hD := hD.sub (ws' := [(c0, .inr (1, [.ref cr, .int rev, .int 0]))] ++ []) [0] (by decide) rfl
  refine xci (va_runV (As := [.int 3, .int u, .int 0]) (rest := []) ⟨hx, hb, hml, hown, hts⟩ (kX0_search0 l E c0 cr rev 0 ci N ra pr 3 u (by decide) (by first | assumption | omega) (by first | assumption | omega) (by first | assumption | omega) H.size) (cwV 3 hts gX0_roleOfPath_X0_search rfl rfl rfl (by decide +kernel) ⟨Nat.le_of_ble_eq_true rfl, Nat.le_of_ble_eq_true rfl⟩) ⟨CP.blind, (va_recv hev.1 hP.left (ci := 1) (q0 := 0) rfl rfl), (xpreT (X := rowsW E N ra pr) hev hz hA hP hD hS hR0 hap [0] rfl (fun q9 h9 => List.mem_append_right _ h9))⟩ rfl rfl hl.1 rfl (lv_room (Nat.le_of_ble_eq_true rfl)) dX0_roleOfPath_9 ⟨Nat.le_of_ble_eq_true rfl, Nat.le_of_ble_eq_true rfl⟩) hP hD hS hA (fun r1 w2 H locs h3 hP hD hS => ?_)
  obtain ⟨sea24, rfl, rfl, h3⟩ := h3
  try dsimp only at h3
  have hP : va_P E.1 vwCl [(c0, .inr (1, [.ref cr, .int rev, .int sea24]))] H := hP
  have hD : va_D A [(c0, .inr (1, [.ref cr, .int rev, .int sea24]))] := hD
  refine lv_istore_n (lv' := [(2, .int ((srF ci pr u 10 3 0).1)), (0, .ref c0), (1, .int u)]) hx hb dX0_roleOfPath_12 rfl hl (by decide) rfl (fun ls hl => ?_)
  refine lv_iload_n hx hb dX0_roleOfPath_13 rfl (lv_at hl 0 rfl) ?_
  refine lv_bipush (v := (-2)) hx hb dX0_roleOfPath_14 (by decide) ?_
  refine lv_icmp_ne (tgt := 23) hx hb dX0_roleOfPath_16 (by decide) (fun c5 => ?_) (fun c5 => ?_)
  · skip
    refine lv_iload_n hx hb dX0_roleOfPath_23 rfl (lv_at hl 0 rfl) ?_
    refine xri hx hb hr hlocks hP hD hS ⟨sea24, rfl, ?_, ?_⟩ dX0_roleOfPath_24
    · unfold fnd
      rw [if_neg c5]
    · trivial
  · skip
    refine lv_iconst (v := (-1)) hx hb dX0_roleOfPath_19 (by decide) ?_
    refine lv_goto (tgt := 24) hx hb dX0_roleOfPath_20 (by decide) ?_
    refine xri hx hb hr hlocks hP hD hS ⟨sea24, rfl, ?_, ?_⟩ dX0_roleOfPath_24
    · unfold fnd
      rw [if_pos c5]
    · trivial

abbrev pX7_find (E : xE) (x : Nat) (rg : Nat) (dr : Nat) (rs : Nat) (nr : Int32) (c0 : Nat) (h : Nat) (td : Nat) (cr : Nat) (rev : Int32) (sea : Int32) (ci : Nat → Option Nat) (N : Nat) (ra : Nat → Nat) (pr : Nat → RowP) (u : Int32) (r : Int32) (w : va_W) : Prop := ∃ (sea2 : Int32), w = [(c0, .inr (1, [.ref cr, .int rev, .int sea2]))] ∧ ((cnt u 14 = 0 ∧ r = -1) ∨ (¬ cnt u 14 = 0 ∧ r = fnd (srF ci pr u 10 3 0).1))
set_option maxHeartbeats 4000000 in
set_option maxRecDepth 100000 in
theorem kX7_find (l : Launch) (E : xE) (x : Nat) (rg : Nat) (dr : Nat) (rs : Nat) (nr : Int32) (c0 : Nat) (h : Nat) (td : Nat) (cr : Nat) (rev : Int32) (sea : Int32) (ci : Nat → Option Nat) (N : Nat) (ra : Nat → Nat) (pr : Nat → RowP) (u : Int32) (hok : ∀ i, i < N → rOk (pr i)) (hci : ∀ j i, ci j = some i → i < N) (hto : ∀ k, k < N → ∀ i, i < (pr k).1 16 → isN ((pr k).2.2.2 6 i) 10) : KT l yX7_find wsX7_find 24 593 0 0 E [(c0, .inr (1, [.ref cr, .int rev, .int sea]))] ([(x, .inr (8, [.ref rg, .ref dr, .ref rs, .int nr, .ref c0, .ref h, .ref td])), (cr, aR E 10 (fun j => (ci j).map ra))] ++ rowsW E N ra pr) [.ref x, .int u] (QI E (pX7_find E x rg dr rs nr c0 h td cr rev sea ci N ra pr u)) := by
  refine KT.start (cc := cX7_find) (maxL := 2) (ret := (some .int)) (by decide) rfl (Nat.le_of_ble_eq_true rfl) ?_
  intro p e s m below meth c A H hx hb hr hlocks hml hts hown hin hP hR0 hD hap hev hz hA hS ls hl
  have hl : lv_has ls 2 [(0, .ref x), (1, .int u)] := hl
  have hiX7 : ∀ w ∈ wsX70, w ∈ wsX7_find := by decide +kernel
  have hf36 := hts (.fieldLink RX7 36 "SignQuorum" "client" "LSignQuorum$Client;") (by decide +kernel)
  have hcu := cnt_le u 14
  refine lv_iload_n hx hb dX7_find_0 rfl (lv_at hl 1 rfl) ?_
  have hP := hP.sub (ws' := [] ++ [(c0, .inr (1, [.ref cr, .int rev, .int sea]))]) [0] rfl
  have hD := hD.sub (ws' := [] ++ [(c0, .inr (1, [.ref cr, .int rev, .int sea]))]) [0] (by decide) rfl
  refine xci (va_runS (As := [.int u]) (rest := []) ⟨hx, hb, hml, hown, hts⟩ (kX7_partsOfPath l E u  H.size) (va_cwS 1 hts gX7_find_X7_partsOfPath rfl rfl rfl (by decide +kernel) ⟨Nat.le_of_ble_eq_true rfl, Nat.le_of_ble_eq_true rfl⟩) ⟨CP.blind, (xpre hev hz hA hP hD hS hR0 hap [] rfl)⟩ rfl rfl hl.1 rfl (lv_room (Nat.le_of_ble_eq_true rfl)) dX7_find_1 ⟨Nat.le_of_ble_eq_true rfl, Nat.le_of_ble_eq_true rfl⟩) hP hD hS hA (fun r1 w2 H locs h3 hP hD hS => ?_)
  obtain ⟨rfl, rfl, h3⟩ := h3
  try dsimp only at h3
  have hP : va_P E.1 vwCl [(c0, .inr (1, [.ref cr, .int rev, .int sea]))] H := hP
  have hD : va_D A [(c0, .inr (1, [.ref cr, .int rev, .int sea]))] := hD
  refine lv_if_ne (tgt := 11) hx hb dX7_find_4 (by decide) (fun c4 => ?_) (fun c4 => ?_)
  · skip
    have kc4 : ¬ (cnt u 14) = 0 := fun h9 => c4 ((nI_eq (a := (cnt u 14)) (b := 0) (by omega) (by omega)).mpr h9)
    refine lv_aload_n hx hb dX7_find_11 rfl (lv_at hl 0 rfl) ?_
    refine va_get (D := E.1) (ci := 8) (v := .ref c0) (C := RX7) (T := TX7) (N := 7) hx hb hts hiX7 hown hev.1 (xro hR0 hap hS) 0 rfl rfl 4 (by decide) hf36 (fun _ h9 => h9) rfl dX7_find_12 ?_
    refine lv_iload_n hx hb dX7_find_15 rfl (lv_at hl 1 rfl) ?_
    have hP := hP.sub (ws' := [(c0, .inr (1, [.ref cr, .int rev, .int sea]))] ++ []) [0] rfl
    have hD := hD.sub (ws' := [(c0, .inr (1, [.ref cr, .int rev, .int sea]))] ++ []) [0] (by decide) rfl
    refine xci (va_runV (As := [.int u]) (rest := []) ⟨hx, hb, hml, hown, hts⟩ (kX0_roleOfPath l E c0 cr rev sea ci N ra pr u (by first | assumption | omega) (by first | assumption | omega) (by first | assumption | omega) H.size) (cwV 1 hts gX7_find_X0_roleOfPath rfl rfl rfl (by decide +kernel) ⟨Nat.le_of_ble_eq_true rfl, Nat.le_of_ble_eq_true rfl⟩) ⟨CP.blind, (va_recv hev.1 hP.left (ci := 1) (q0 := 0) rfl rfl), (xpreT (X := rowsW E N ra pr) hev hz hA hP hD hS hR0 hap [1] rfl (fun q9 h9 => List.mem_append_right _ h9))⟩ rfl rfl hl.1 rfl (lv_room (Nat.le_of_ble_eq_true rfl)) dX7_find_16 ⟨Nat.le_of_ble_eq_true rfl, Nat.le_of_ble_eq_true rfl⟩) hP hD hS hA (fun r5 w6 H locs h7 hP hD hS => ?_)
    obtain ⟨sea28, rfl, rfl, h7⟩ := h7
    try dsimp only at h7
    have hP : va_P E.1 vwCl [(c0, .inr (1, [.ref cr, .int rev, .int sea28]))] H := hP
    have hD : va_D A [(c0, .inr (1, [.ref cr, .int rev, .int sea28]))] := hD
    refine xri hx hb hr hlocks hP hD hS ⟨sea28, rfl, ?_⟩ dX7_find_19
    exact Or.inr ⟨by assumption, rfl⟩
  · skip
    have kc4 : (cnt u 14) = 0 := (nI_eq (a := (cnt u 14)) (b := 0) (by omega) (by omega)).mp c4
    refine lv_iconst (v := (-1)) hx hb dX7_find_7 (by decide) ?_
    refine lv_goto (tgt := 19) hx hb dX7_find_8 (by decide) ?_
    refine xri hx hb hr hlocks hP hD hS ⟨sea, rfl, ?_⟩ dX7_find_19
    exact Or.inl ⟨by assumption, rfl⟩
