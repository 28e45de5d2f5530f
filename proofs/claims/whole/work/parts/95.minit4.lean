set_option maxHeartbeats 4000000 in
set_option maxRecDepth 100000 in
theorem kX8_init (l : Launch) (E : xE) (mo : Nat)  : KT l yX8_init wsX8_init 1 12 36 3092 E [(mo, .inr (9, mO0))] [] [.ref mo] (QV E (pX8_init E mo)) := by
  refine KT.start (cc := cX8_init) (maxL := 2) (ret := none) (by decide) rfl (Nat.le_of_ble_eq_true rfl) ?_
  intro p e s m below meth c A H hx hb hr hlocks hml hts hown hin hP hR0 hD hap hev hz hA hS ls hl
  have hl : lv_has ls 2 [(0, .ref mo)] := hl
  have hiX8 : ∀ w ∈ wsX80, w ∈ wsX8_init := fun _ h => List.mem_cons_of_mem _ (List.mem_append_right _ h)
  have hoi1 := hts (.methodLink RX8 1 objectInit) (by decide +kernel)
  have hoj := hts (.instanceMethod objectInit) (by decide +kernel)
  refine lv_aload_n hx hb dX8_init_0 rfl (lv_at hl 0 rfl) ?_
  refine W.objInit hx hb hown hoi1 hoj (hts _ (List.mem_of_getElem? (i := 3) rfl)) rfl (by rw [hml]; exact hl.1) rfl dX8_init_1 (Nat.le_of_ble_eq_true rfl) (Nat.le_of_ble_eq_true rfl) ?_
  refine W.eq (g2 := F0 m 4 ls []) rfl ?_
  replace hP : va_P E.1 vwCl [(mo, .inr (9, [.int 0, .int 0, .int 0, .null, .null, .null, .null, .null, .null, .null, .null, .null, .null, .null, .null, .null, .null, .null, .null, .null, .null, .null, .null, .null, .null, .null, .null, .null, .int 0, .null, .null, .null, .null, .null, .null, .null, .null, .null, .int 0, .null, .null]))] _ := hP
  replace hD : va_D A [(mo, .inr (9, [.int 0, .int 0, .int 0, .null, .null, .null, .null, .null, .null, .null, .null, .null, .null, .null, .null, .null, .null, .null, .null, .null, .null, .null, .null, .null, .null, .null, .null, .null, .int 0, .null, .null, .null, .null, .null, .null, .null, .null, .null, .int 0, .null, .null]))] := hD
  refine mi_c1 hx hb hts hiX8 hown hin hev hA hl hP hD hS ?_
  clear hP hD hS
  intro q3 q4 q5 q6 q7 q8 H locs hP hD hS
  refine mi_c2 hx hb hts hiX8 hown hin hev hA hl hP hD hS ?_
  clear hP hD hS
  intro q9 q10 q11 q12 q13 q14 H locs hP hD hS
  refine mi_c3 hx hb hts hiX8 hown hin hev hA hl hP hD hS ?_
  clear hP hD hS
  intro q15 q16 q17 q18 q19 q20 H locs hP hD hS
  refine mi_c4 hx hb hts hiX8 hown hin hev hA hl hP hD hS ?_
  clear hP hD hS
  intro q21 q22 q23 q24 q25 q26 H locs hP hD hS
  refine mi_c5 hx hb hts hiX8 hown hin hev hA hl hP hD hS ?_
  clear hP hD hS
  intro q27 q29 q30 q31 H locs hP hD hS
  refine mi_c6 hx hb hts hiX8 hown hin hev hA hl hP hD hS ?_
  clear hP hD hS
  intro q32 fsFS8 zsFS H locs hP hD hS
  refine mi_c7 hx hb hts hiX8 hown hin hev hA hl hP hD hS ?_
  clear hP hD hS
  intro q33 fsRC64 zsRC H locs hP hD hS
  refine mi_c8 hx hb hts hiX8 hown hin hev hA hl hP hD hS ?_
  clear hP hD hS
  intro q34 q35 q36 q37 q39 q40 H locs hP hD hS
  exact mi_tail (ad := fun k => ([0, 0, 0, q3, q4, q5, q6, q7, q8, q9, q10, q11, q12, q13, q14, q15, q16, q17, q18, q19, q20, q21, q22, q23, q24, q25, q26, q27, 0, q29, q30, q31, q32, q33, q34, q35, q36, q37, 0, q39, q40] : List Nat).getD k 0) zsFS zsRC hx hb hr hlocks hts hiX8 hown hev hP hD hS hl
