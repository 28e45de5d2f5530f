/-! THE CLASS IN THE LAW: a new row -/
theorem perm4 {A B C D : va_W} : ((A ++ C) ++ (B ++ D)).Perm ((A ++ B) ++ (D ++ C)) := by
  rw [List.append_assoc, List.append_assoc]
  refine List.Perm.append_left A ?_
  rw [← List.append_assoc B]
  exact List.perm_append_comm
abbrev cq_row (E : xE) (ax : Nat → Nat) (kn nn ln : Nat) (fs fu : Nat → Int64) (gi : Nat → Nat → Int32) (ra : Nat → Nat) (pr : Nat → RowP) (ci : Nat → Option Nat) (rev sea : Int32) (y v : Int32) (u : Int64) (r : Int32) (w : va_W) : Prop := (∃ j, j < 10 ∧ y = nI j ∧ (¬ v < 1 ∧ ¬ 1000000 < v) ∧ nn < 24 ∧ ∃ (ad : Nat → Nat) (w0 : Nat) (gn gm : Nat → Int32), w = CW E ax kn (nn + 1) ln fs fu gi (updN ra nn w0) (upR pr nn (newR ad nn j v u gn gm)) ci rev sea ∧ r = nI nn ∧ (j = 0 → ∀ k, k < 10 → gn k = gi 0 k ∧ gm k = gi 1 k)) ∨ (¬ (isN y 10 ∧ (¬ v < 1 ∧ ¬ 1000000 < v) ∧ nn < 24) ∧ w = CW E ax kn nn ln fs fu gi ra pr ci rev sea ∧ r = -1)
set_option maxHeartbeats 4000000 in
set_option maxRecDepth 100000 in
theorem cw_row (l : Launch) (E : xE) (ax : Nat → Nat) (kn nn ln : Nat) (fs fu : Nat → Int64) (gi : Nat → Nat → Int32) (ra : Nat → Nat) (pr : Nat → RowP) (ci : Nat → Option Nat) (rev sea : Int32) (y v : Int32) (u : Int64) (hnn : nn ≤ 24) (hci : ∀ j i, ci j = some i → i < nn) : KT l yX7_row wsX7_row 3 58 13 96 E (CW E ax kn nn ln fs fu gi ra pr ci rev sea) [] [.ref (ax 0), .int y, .int v, .long u] (QI E (cq_row E ax kn nn ln fs fu gi ra pr ci rev sea y v u)) := by
  by_cases hn : isN y 10 ∧ (¬ v < 1 ∧ ¬ 1000000 < v) ∧ nn < 24
  · obtain ⟨⟨j, hj, rfl⟩, hv, h24⟩ := hn
    refine KT.frI (R := pck (cwL E ax kn nn ln fs fu gi ra ci rev sea) [1, 2, 3, 4, 5, 6, 8, 9, 10, 11, 12, 13, 14] ++ rowsW E nn ra pr) (kX7_row l E (ax 0) (ax 1) (ax 2) (ax 3) (ax 4) (ax 5) (ax 6) (rfO nn ra) nn (ax 9) (ax 10) (gi 0) (gi 1) j v u h24 hj hv) ?_ (fun q hq => List.mem_append_left _ (pck_sub (L := cwL E ax kn nn ln fs fu gi ra ci rev sea) (ks := [4, 5, 6]) (by decide) q hq)) (fun r w hp => ?_)
    · show (cwL E ax kn nn ln fs fu gi ra ci rev sea ++ rowsW E nn ra pr).Perm (pck (cwL E ax kn nn ln fs fu gi ra ci rev sea) [0, 7] ++ (pck (cwL E ax kn nn ln fs fu gi ra ci rev sea) [1, 2, 3, 4, 5, 6, 8, 9, 10, 11, 12, 13, 14] ++ rowsW E nn ra pr))
      rw [← List.append_assoc]
      exact (pck_perm (show _ from (by decide : ([0, 7] ++ [1, 2, 3, 4, 5, 6, 8, 9, 10, 11, 12, 13, 14] : List Nat).Perm (List.range 15)))).append_right _
    · obtain ⟨rf2, w0, oa, qo, tq, dq, ha, na2, ma2, r7, va, pa, ta, ea, gn, gm, rfl, rfl, rfl, hd⟩ := hp
      have e7 : va_up (rfO nn ra) nn (some w0) = rfO (nn + 1) (updN ra nn w0) := by
        funext q
        unfold va_up rfO updN
        by_cases g : q = nn
        · rw [if_pos g, if_pos (by omega), if_pos g]
        · rw [if_neg g]
          by_cases g2 : q < nn
          · rw [if_pos g2, if_pos (by omega), if_neg g]
          · rw [if_neg g2, if_neg (by omega)]
      have e9 : (fun j => (ci j).map (updN ra nn w0)) = (fun j => (ci j).map ra) := by
        funext q
        cases hc : ci q with
        | none => rfl
        | some k =>
          have := hci q k hc
          show some (updN ra nn w0 k) = some (ra k)
          unfold updN
          rw [if_neg (by omega)]
      refine ⟨CW E ax kn (nn + 1) ln fs fu gi (updN ra nn w0) (upR pr nn (newR (fun a => ([oa, qo, tq, dq, ha, na2, ma2, r7, va, pa, ta, ea] : List Nat).getD a 0) nn j v u gn gm)) ci rev sea, ?_, Or.inl ⟨j, hj, rfl, hv, h24, _, w0, gn, gm, rfl, rfl, hd⟩⟩
      have eR : rowsW E (nn + 1) (updN ra nn w0) (upR pr nn (newR (fun a => ([oa, qo, tq, dq, ha, na2, ma2, r7, va, pa, ta, ea] : List Nat).getD a 0) nn j v u gn gm)) = rowsW E nn ra pr ++ rowCells E w0 (newR (fun a => ([oa, qo, tq, dq, ha, na2, ma2, r7, va, pa, ta, ea] : List Nat).getD a 0) nn j v u gn gm) := by
        have := rowsW_new (E := E) (N := nn) (ra := ra) (ra' := updN ra nn w0) (pr := pr) (pr' := upR pr nn (newR (fun a => ([oa, qo, tq, dq, ha, na2, ma2, r7, va, pa, ta, ea] : List Nat).getD a 0) nn j v u gn gm)) (fun q hq => ⟨updN_n ra (by omega), upR_n pr _ (by omega)⟩)
        rw [updN_s, upR_s] at this
        exact this
      unfold CW
      rw [eR]
      have eL : pck (cwL E ax kn nn ln fs fu gi ra ci rev sea) [1, 2, 3, 4, 5, 6, 8, 9, 10, 11, 12, 13, 14] = pck (cwL E ax kn (nn + 1) ln fs fu gi (updN ra nn w0) ci rev sea) [1, 2, 3, 4, 5, 6, 8, 9, 10, 11, 12, 13, 14] := by
        unfold cwL
        rw [e9]
        rfl
      rw [eL, e7]
      refine List.Perm.trans (perm4 (A := pck (cwL E ax kn (nn + 1) ln fs fu gi (updN ra nn w0) ci rev sea) [0, 7]) (C := rowCells E w0 (newR (fun a => ([oa, qo, tq, dq, ha, na2, ma2, r7, va, pa, ta, ea] : List Nat).getD a 0) nn j v u gn gm))) ?_
      exact (pck_perm (show _ from (by decide : ([0, 7] ++ [1, 2, 3, 4, 5, 6, 8, 9, 10, 11, 12, 13, 14] : List Nat).Perm (List.range 15)))).symm.append_right _
  · refine KT.up (KT.pkI (L := cwL E ax kn nn ln fs fu gi ra ci rev sea) (X := rowsW E nn ra pr) [] [0, 1, 2, 3, 4, 5, 6, 7, 8, 9, 10, 11, 12, 13, 14] (show _ from (by decide : ([] ++ [0, 1, 2, 3, 4, 5, 6, 7, 8, 9, 10, 11, 12, 13, 14] : List Nat).Perm (List.range 15))) (kX7_rowN l E (ax 0) (ax 1) (ax 2) (ax 3) (ax 4) (ax 5) (ax 6) (rfO nn ra) nn y v u hnn hn) (fun q hq => List.mem_append_left _ (pck_sub (L := cwL E ax kn nn ln fs fu gi ra ci rev sea) (ks := [0, 7]) (by decide) q hq)) (fun v w hp => ?_)) (by decide) (by decide) (by decide) (by decide)
    obtain ⟨rfl, rfl, -⟩ := hp
    exact ⟨cwL E ax kn nn ln fs fu gi ra ci rev sea, rfl, rfl, rfl, Or.inr ⟨hn, rfl, rfl⟩⟩
