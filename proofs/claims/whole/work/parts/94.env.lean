/-! THE START: what the tables and the Statement give -/
theorem arr_known {args : Array Value} {s : State} {ty : FieldType} (h : (Cond.arrayClass ty).before args s = true) : ∃ cA : ClassId, ArrOfT s cA ty ∧ s.vm.findClass ("[" ++ ty.toString) = some cA := by
  obtain ⟨cA, kA, comp, h1, h2, h3⟩ := Cond.arrayClass_spec h
  exact ⟨cA, fun n z => ⟨fun k h => (by cases h), kA, h2, comp, h3⟩, h1⟩
theorem xN_in1 : ∀ q ∈ nF, Cond.fieldLinkNest q.1 q.2.1 q.2.2.1 q.2.2.2.1 q.2.2.2.2.1 q.2.2.2.2.2 ∈ lw_tbl := fun q hq => of_decide_eq_true (List.all_eq_true.mp (show nF.all (fun q => decide (Cond.fieldLinkNest q.1 q.2.1 q.2.2.1 q.2.2.2.1 q.2.2.2.2.1 q.2.2.2.2.2 ∈ lw_tbl)) = true by decide +kernel) q hq)
theorem xN_in2 : ∀ q ∈ nM, Cond.methodLinkNest q.1 q.2.1 q.2.2.1 q.2.2.2 ∈ lw_tbl := fun q hq => of_decide_eq_true (List.all_eq_true.mp (show nM.all (fun q => decide (Cond.methodLinkNest q.1 q.2.1 q.2.2.1 q.2.2.2 ∈ lw_tbl)) = true by decide +kernel) q hq)
abbrev tFS : Term := .static RX5 "FIRST_STATE" "[I"
abbrev tRC : Term := .static RX5 "ROUND_CONSTANTS" "[I"
abbrev gN : Cond := Jvm.Cond.and given_1 narrow_1
theorem el_FS : ∀ j : Nat, j < 8 → Cond.eq (.elem tFS (.int (Int32.ofNat j))) (.int (sFS j)) ∈ flatC gN := by decide +kernel
theorem el_RC : ∀ j : Nat, j < 64 → Cond.eq (.elem tRC (.int (Int32.ofNat j))) (.int (sRC j)) ∈ flatC gN := by decide +kernel
theorem str_ref {args : Array Value} {s : State} {t : Term} {C : String} (h : (Cond.exactly t C).before args s = true) : ∃ a : Nat, t.eval args s none [] s = some (.ref a) := by
  simp only [Cond.before, Cond.holds, Cond.value] at h
  cases hv : t.eval args s none [] s with
  | none => simp [hv] at h
  | some v =>
    cases v with
    | ref a => exact ⟨a, rfl⟩
    | _ => cases hc : s.vm.findClass C <;> simp [hv, hc] at h
set_option maxHeartbeats 4000000 in
set_option maxRecDepth 100000 in
theorem env_start {b : Nat} {s : State} (hts : ∀ w ∈ lw_tbl, w.before #[Value.ref b] s = true) (hgv : gN.before #[Value.ref b] s = true) : ∃ (E : xE) (q : Nat), xEv E s ∧ xZ E (lA s) s s.heap ∧ thE q (lA s) s s.heap := by
  have hs := flat_of_before _ hgv
  have htl : ∀ w ∈ wsL_law, w.before #[Value.ref b] s = true := fun w hw => hts w (wsL_law_all w hw)
  have hA : ∀ a : Nat, a < s.heap.size → ¬ lA s a := fun a h => Nat.not_le.mpr h
  obtain ⟨d0, i0, k0⟩ := u_known (C := RJx00060) (T := TJx00060) (N := 6) (n := 6) hts wsT_Jx00060 (hts (.instantiable RJx00060 6) (by decide +kernel))
  obtain ⟨d1, i1, k1⟩ := u_known (C := RX0) (T := TX0) (N := 3) (n := 3) hts wsT_X0 (hts (.instantiable RX0 3) (by decide +kernel))
  obtain ⟨d2, i2, k2⟩ := u_known (C := RX1) (T := TX1) (N := 4) (n := 4) hts wsT_X1 (hts (.instantiable RX1 4) (by decide +kernel))
  obtain ⟨d3, i3, k3⟩ := u_known (C := RX2) (T := TX2) (N := 3) (n := 3) hts wsT_X2 (hts (.instantiable RX2 3) (by decide +kernel))
  obtain ⟨d4, i4, k4⟩ := u_known (C := RX3) (T := TX3) (N := 2) (n := 2) hts wsT_X3 (hts (.instantiable RX3 2) (by decide +kernel))
  obtain ⟨d5, i5, k5⟩ := u_known (C := RX4) (T := TX4) (N := 13) (n := 13) hts wsT_X4 (hts (.instantiable RX4 13) (by decide +kernel))
  obtain ⟨d6, i6, k6⟩ := u_known (C := RX5) (T := TX5) (N := 4) (n := 4) hts wsT_X5 (hts (.instantiable RX5 4) (by decide +kernel))
  obtain ⟨d7, i7, k7⟩ := u_known (C := RX6) (T := TX6) (N := 3) (n := 3) hts wsT_X6 (hts (.instantiable RX6 3) (by decide +kernel))
  obtain ⟨d8, i8, k8⟩ := u_known (C := RX7) (T := TX7) (N := 7) (n := 7) hts wsT_X7 (hts (.instantiable RX7 7) (by decide +kernel))
  obtain ⟨d9, i9, k9⟩ := u_known (C := RX8) (T := TX8) (N := 41) (n := 41) hts wsT_X8 (hts (.instantiable RX8 41) (by decide +kernel))
  obtain ⟨c0, a0, f0⟩ := arr_known (hts (.arrayClass .byte) (by decide +kernel))
  obtain ⟨c1, a1, f1⟩ := arr_known (hts (.arrayClass .int) (by decide +kernel))
  obtain ⟨c2, a2, f2⟩ := arr_known (hts (.arrayClass .long) (by decide +kernel))
  obtain ⟨c3, a3, f3⟩ := arr_known (hts (.arrayClass .boolean) (by decide +kernel))
  have hao : (Cond.arrayOver (.object "SignQuorum$Row")).before #[Value.ref b] s = true := hts _ (by decide +kernel)
  obtain ⟨comp, c4, kA, g1, -, g2, g3, g4⟩ := Cond.arrayOver_spec hao
  obtain ⟨t5, e5, z5⟩ := va_Tof (A := lA s) (f := fun j => .int (sFS j)) (N := 8) (tm := tFS) (by decide) (hs (.arrayOf tFS .int) (by decide +kernel)) (va_eqt (hs (.eq (.length tFS) (.int 8)) (by decide +kernel))) (fun j hj => va_eqt (hs _ (el_FS j hj))) hA
  obtain ⟨t6, e6, z6⟩ := va_Tof (A := lA s) (f := fun j => .int (sRC j)) (N := 64) (tm := tRC) (by decide) (hs (.arrayOf tRC .int) (by decide +kernel)) (va_eqt (hs (.eq (.length tRC) (.int 64)) (by decide +kernel))) (fun j hj => va_eqt (hs _ (el_RC j hj))) hA
  obtain ⟨q, hq⟩ := str_ref (hs (.exactly (.string RX7 183) "java/lang/String") (by decide +kernel))
  refine ⟨((fun k => ([d0, d1, d2, d3, d4, d5, d6, d7, d8, d9] : List ClassId).getD k 0, fun k => ([i0, i1, i2, i3, i4, i5, i6, i7, i8, i9] : List (Nat → Nat)).getD k i0), fun k => ([c0, c1, c2, c3, c4, t5, t6] : List Nat).getD k 0), q, ⟨⟨fun k x hx => ?_, fun k x hx => ?_⟩, ⟨fun x hx => va_Nw.of rfl (hts _ (xN_in1 x hx)), fun x hx => va_Nw.of rfl (hts _ (xN_in2 x hx))⟩, va_AO.of hao⟩, ⟨⟨va_Zref (hts (.laysStatic RX5 "FIRST_STATE" "[I") (by decide +kernel)) (hts (.initialized RX5) (by decide +kernel)) e5 hA, z5⟩, va_Zref (hts (.laysStatic RX5 "ROUND_CONSTANTS" "[I") (by decide +kernel)) (hts (.initialized RX5) (by decide +kernel)) e6 hA, z6⟩, vk_R.of (hts (.stringRef RX7 183 "i isn't 0 .. 31") (by decide +kernel)) hq, zS.of (hts th3 (by decide +kernel)) (hs th1 (by decide +kernel)) hA, zS.of (hts th4 (by decide +kernel)) (hs th2 (by decide +kernel)) hA⟩
  · match k, hx with
    | 0, hx => cases hx; exact k0
    | 1, hx => cases hx; exact k1
    | 2, hx => cases hx; exact k2
    | 3, hx => cases hx; exact k3
    | 4, hx => cases hx; exact k4
    | 5, hx => cases hx; exact k5
    | 6, hx => cases hx; exact k6
    | 7, hx => cases hx; exact k7
    | 8, hx => cases hx; exact k8
    | 9, hx => cases hx; exact k9
    | k + 10, hx => simp [vwCl] at hx
  · match k, hx with
    | 0, hx => cases hx; exact ⟨a0, f0⟩
    | 1, hx => cases hx; exact ⟨a1, f1⟩
    | 2, hx => cases hx; exact ⟨a2, f2⟩
    | 3, hx => cases hx; exact ⟨a3, f3⟩
    | 4, hx => cases hx; exact ⟨fun n z => ⟨fun k h => (by cases h), kA, g2, comp, g3⟩, kA, comp, g2, g3, g1, g4⟩
    | k + 5, hx => simp [xT] at hx
