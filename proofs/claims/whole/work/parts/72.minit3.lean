set_option maxHeartbeats 4000000 in
set_option maxRecDepth 100000 in
theorem kX8_init (l : Launch) (E : xE) (mo : Nat)  : KT l yX8_init wsX8_init 1 12 36 3092 E [(mo, .inr (9, mO0))] [] [.ref mo] (QV E (pX8_init E mo)) := by
  refine KT.start (cc := cX8_init) (maxL := 2) (ret := none) (by decide) rfl (Nat.le_of_ble_eq_true rfl) ?_
  intro p e s m below meth c A H hx hb hr hlocks hml hts hown hin hP hR0 hD hap hev hz hA hS ls hl
  have hl : lv_has ls 2 [(0, .ref mo)] := hl
  have hiX8 : ∀ w ∈ wsX80, w ∈ wsX8_init := fun _ h => List.mem_cons_of_mem _ (List.mem_append_right _ h)
  have hacI := hts (.arrayClass .int) (by decide +kernel)
  have hacJ := hts (.arrayClass .long) (by decide +kernel)
  have hacZ := hts (.arrayClass .boolean) (by decide +kernel)
  have hf104 := hts (.fieldLink RX8 104 "SignQuorumModel" "start" "[I") (by decide +kernel)
  have hf13 := hts (.fieldLink RX8 13 "SignQuorumModel" "end" "[J") (by decide +kernel)
  have hf16 := hts (.fieldLink RX8 16 "SignQuorumModel" "gone" "[Z") (by decide +kernel)
  have hf171 := hts (.fieldLink RX8 171 "SignQuorumModel" "steps" "[I") (by decide +kernel)
  have hf174 := hts (.fieldLink RX8 174 "SignQuorumModel" "word" "[I") (by decide +kernel)
  have hf177 := hts (.fieldLink RX8 177 "SignQuorumModel" "state" "[I") (by decide +kernel)
  have hf180 := hts (.fieldLink RX8 180 "SignQuorumModel" "sum" "[I") (by decide +kernel)
  have hf183 := hts (.fieldLink RX8 183 "SignQuorumModel" "searched" "[Z") (by decide +kernel)
  have hf186 := hts (.fieldLink RX8 186 "SignQuorumModel" "role" "[I") (by decide +kernel)
  have hf189 := hts (.fieldLink RX8 189 "SignQuorumModel" "place" "[I") (by decide +kernel)
  have hf20 := hts (.fieldLink RX8 20 "SignQuorumModel" "draftQuorum" "[I") (by decide +kernel)
  have hf24 := hts (.fieldLink RX8 24 "SignQuorumModel" "draftSet" "[I") (by decide +kernel)
  have hf27 := hts (.fieldLink RX8 27 "SignQuorumModel" "quorums" "[I") (by decide +kernel)
  have hf30 := hts (.fieldLink RX8 30 "SignQuorumModel" "sets" "[I") (by decide +kernel)
  have hf33 := hts (.fieldLink RX8 33 "SignQuorumModel" "kind" "[I") (by decide +kernel)
  have hf36 := hts (.fieldLink RX8 36 "SignQuorumModel" "version" "[I") (by decide +kernel)
  have hf39 := hts (.fieldLink RX8 39 "SignQuorumModel" "octets" "[I") (by decide +kernel)
  have hf42 := hts (.fieldLink RX8 42 "SignQuorumModel" "octet" "[I") (by decide +kernel)
  have hf45 := hts (.fieldLink RX8 45 "SignQuorumModel" "until" "[J") (by decide +kernel)
  have hf48 := hts (.fieldLink RX8 48 "SignQuorumModel" "told" "[I") (by decide +kernel)
  have hf51 := hts (.fieldLink RX8 51 "SignQuorumModel" "toldRole" "[I") (by decide +kernel)
  have hf54 := hts (.fieldLink RX8 54 "SignQuorumModel" "toldVersion" "[I") (by decide +kernel)
  have hf57 := hts (.fieldLink RX8 57 "SignQuorumModel" "delegations" "[I") (by decide +kernel)
  have hf60 := hts (.fieldLink RX8 60 "SignQuorumModel" "pattern" "[I") (by decide +kernel)
  have hf63 := hts (.fieldLink RX8 63 "SignQuorumModel" "to" "[I") (by decide +kernel)
  have hf66 := hts (.fieldLink RX8 66 "SignQuorumModel" "last" "[Z") (by decide +kernel)
  have hf69 := hts (.fieldLink RX8 69 "SignQuorumModel" "paths" "[I") (by decide +kernel)
  have hf7 := hts (.fieldLink RX8 7 "SignQuorumModel" "secret" "[J") (by decide +kernel)
  have hf72 := hts (.fieldLink RX8 72 "SignQuorumModel" "path" "[I") (by decide +kernel)
  have hf75 := hts (.fieldLink RX8 75 "SignQuorumModel" "signatures" "[I") (by decide +kernel)
  have hf78 := hts (.fieldLink RX8 78 "SignQuorumModel" "signer" "[I") (by decide +kernel)
  have hf81 := hts (.fieldLink RX8 81 "SignQuorumModel" "signature" "[J") (by decide +kernel)
  have hf84 := hts (.fieldLink RX8 84 "SignQuorumModel" "now" "[I") (by decide +kernel)
  have hf87 := hts (.fieldLink RX8 87 "SignQuorumModel" "bytes" "[I") (by decide +kernel)
  have hf90 := hts (.fieldLink RX8 90 "SignQuorumModel" "made" "[I") (by decide +kernel)
  have hf93 := hts (.fieldLink RX8 93 "SignQuorumModel" "shown" "[I") (by decide +kernel)
  have hoi1 := hts (.methodLink RX8 1 objectInit) (by decide +kernel)
  have hoj := hts (.instanceMethod objectInit) (by decide +kernel)
  refine lv_aload_n hx hb dX8_init_0 rfl (lv_at hl 0 rfl) ?_
  refine W.objInit hx hb hown hoi1 hoj (hts _ (List.mem_of_getElem? (i := 3) rfl)) rfl (by rw [hml]; exact hl.1) rfl dX8_init_1 (Nat.le_of_ble_eq_true rfl) (Nat.le_of_ble_eq_true rfl) ?_
  refine W.eq (g2 := F0 m 4 ls []) rfl ?_
  refine mi_arr (k := 3) (N := 20) (n := 20) (t0 := 2) (atype := .long) (ty := .long) (a0 := (20, .inr (.inl (fun _ => 0)))) hx hb hts hiX8 hown hin hev hA hl (by simp only [List.length_set]; rfl) hP hD hS TX8_3 (by decide) hf7 rfl hacJ rfl rfl (fun _ => rfl) (by decide) (by decide) (by decide +kernel) (Nat.le_of_ble_eq_true rfl) (Nat.le_of_ble_eq_true rfl) dX8_init_4 (fun _ hk => lv_bipush (v := 20) hx hb dX8_init_5 (by decide) hk) dX8_init_7 dX8_init_9 ?_
  clear hP hD hS
  intro q3 H locs hP hD hS
  refine mi_arr (k := 4) (N := 20) (n := 20) (t0 := 2) (atype := .long) (ty := .long) (a0 := (20, .inr (.inl (fun _ => 0)))) hx hb hts hiX8 hown hin hev hA hl (by simp only [List.length_set]; rfl) hP hD hS TX8_4 (by decide) hf13 rfl hacJ rfl rfl (fun _ => rfl) (by decide) (by decide) (by decide +kernel) (Nat.le_of_ble_eq_true rfl) (Nat.le_of_ble_eq_true rfl) dX8_init_12 (fun _ hk => lv_bipush (v := 20) hx hb dX8_init_13 (by decide) hk) dX8_init_15 dX8_init_17 ?_
  clear hP hD hS
  intro q4 H locs hP hD hS
  refine mi_arr (k := 5) (N := 20) (n := 20) (t0 := 3) (atype := .boolean) (ty := .boolean) (a0 := (20, .inl (fun _ => 0))) hx hb hts hiX8 hown hin hev hA hl (by simp only [List.length_set]; rfl) hP hD hS TX8_5 (by decide) hf16 rfl hacZ rfl rfl (fun _ => rfl) (by decide) (by decide) (by decide +kernel) (Nat.le_of_ble_eq_true rfl) (Nat.le_of_ble_eq_true rfl) dX8_init_20 (fun _ hk => lv_bipush (v := 20) hx hb dX8_init_21 (by decide) hk) dX8_init_23 dX8_init_25 ?_
  clear hP hD hS
  intro q5 H locs hP hD hS
  refine mi_arr (k := 6) (N := 10) (n := 10) (t0 := 1) (atype := .int) (ty := .int) (a0 := (10, .inl (fun _ => 0))) hx hb hts hiX8 hown hin hev hA hl (by simp only [List.length_set]; rfl) hP hD hS TX8_6 (by decide) hf20 rfl hacI rfl rfl (fun _ => rfl) (by decide) (by decide) (by decide +kernel) (Nat.le_of_ble_eq_true rfl) (Nat.le_of_ble_eq_true rfl) dX8_init_28 (fun _ hk => lv_bipush (v := 10) hx hb dX8_init_29 (by decide) hk) dX8_init_31 dX8_init_33 ?_
  clear hP hD hS
  intro q6 H locs hP hD hS
  refine mi_arr (k := 7) (N := 10) (n := 10) (t0 := 1) (atype := .int) (ty := .int) (a0 := (10, .inl (fun _ => 0))) hx hb hts hiX8 hown hin hev hA hl (by simp only [List.length_set]; rfl) hP hD hS TX8_7 (by decide) hf24 rfl hacI rfl rfl (fun _ => rfl) (by decide) (by decide) (by decide +kernel) (Nat.le_of_ble_eq_true rfl) (Nat.le_of_ble_eq_true rfl) dX8_init_36 (fun _ hk => lv_bipush (v := 10) hx hb dX8_init_37 (by decide) hk) dX8_init_39 dX8_init_41 ?_
  clear hP hD hS
  intro q7 H locs hP hD hS
  refine mi_arr (k := 8) (N := 240) (n := 240) (t0 := 1) (atype := .int) (ty := .int) (a0 := (240, .inl (fun _ => 0))) hx hb hts hiX8 hown hin hev hA hl (by simp only [List.length_set]; rfl) hP hD hS TX8_8 (by decide) hf27 rfl hacI rfl rfl (fun _ => rfl) (by decide) (by decide) (by decide +kernel) (Nat.le_of_ble_eq_true rfl) (Nat.le_of_ble_eq_true rfl) dX8_init_44 (fun _ hk => lv_sipush (v := 240) hx hb dX8_init_45 (by decide) hk) dX8_init_48 dX8_init_50 ?_
  clear hP hD hS
  intro q8 H locs hP hD hS
  refine mi_arr (k := 9) (N := 240) (n := 240) (t0 := 1) (atype := .int) (ty := .int) (a0 := (240, .inl (fun _ => 0))) hx hb hts hiX8 hown hin hev hA hl (by simp only [List.length_set]; rfl) hP hD hS TX8_9 (by decide) hf30 rfl hacI rfl rfl (fun _ => rfl) (by decide) (by decide) (by decide +kernel) (Nat.le_of_ble_eq_true rfl) (Nat.le_of_ble_eq_true rfl) dX8_init_53 (fun _ hk => lv_sipush (v := 240) hx hb dX8_init_54 (by decide) hk) dX8_init_57 dX8_init_59 ?_
  clear hP hD hS
  intro q9 H locs hP hD hS
  refine mi_arr (k := 10) (N := 24) (n := 24) (t0 := 1) (atype := .int) (ty := .int) (a0 := (24, .inl (fun _ => 0))) hx hb hts hiX8 hown hin hev hA hl (by simp only [List.length_set]; rfl) hP hD hS TX8_10 (by decide) hf33 rfl hacI rfl rfl (fun _ => rfl) (by decide) (by decide) (by decide +kernel) (Nat.le_of_ble_eq_true rfl) (Nat.le_of_ble_eq_true rfl) dX8_init_62 (fun _ hk => lv_bipush (v := 24) hx hb dX8_init_63 (by decide) hk) dX8_init_65 dX8_init_67 ?_
  clear hP hD hS
  intro q10 H locs hP hD hS
  refine mi_arr (k := 11) (N := 24) (n := 24) (t0 := 1) (atype := .int) (ty := .int) (a0 := (24, .inl (fun _ => 0))) hx hb hts hiX8 hown hin hev hA hl (by simp only [List.length_set]; rfl) hP hD hS TX8_11 (by decide) hf36 rfl hacI rfl rfl (fun _ => rfl) (by decide) (by decide) (by decide +kernel) (Nat.le_of_ble_eq_true rfl) (Nat.le_of_ble_eq_true rfl) dX8_init_70 (fun _ hk => lv_bipush (v := 24) hx hb dX8_init_71 (by decide) hk) dX8_init_73 dX8_init_75 ?_
  clear hP hD hS
  intro q11 H locs hP hD hS
  refine mi_arr (k := 12) (N := 24) (n := 24) (t0 := 1) (atype := .int) (ty := .int) (a0 := (24, .inl (fun _ => 0))) hx hb hts hiX8 hown hin hev hA hl (by simp only [List.length_set]; rfl) hP hD hS TX8_12 (by decide) hf39 rfl hacI rfl rfl (fun _ => rfl) (by decide) (by decide) (by decide +kernel) (Nat.le_of_ble_eq_true rfl) (Nat.le_of_ble_eq_true rfl) dX8_init_78 (fun _ hk => lv_bipush (v := 24) hx hb dX8_init_79 (by decide) hk) dX8_init_81 dX8_init_83 ?_
  clear hP hD hS
  intro q12 H locs hP hD hS
  refine mi_arr (k := 13) (N := 384) (n := 384) (t0 := 1) (atype := .int) (ty := .int) (a0 := (384, .inl (fun _ => 0))) hx hb hts hiX8 hown hin hev hA hl (by simp only [List.length_set]; rfl) hP hD hS TX8_13 (by decide) hf42 rfl hacI rfl rfl (fun _ => rfl) (by decide) (by decide) (by decide +kernel) (Nat.le_of_ble_eq_true rfl) (Nat.le_of_ble_eq_true rfl) dX8_init_86 (fun _ hk => lv_sipush (v := 384) hx hb dX8_init_87 (by decide) hk) dX8_init_90 dX8_init_92 ?_
  clear hP hD hS
  intro q13 H locs hP hD hS
  refine mi_arr (k := 14) (N := 24) (n := 24) (t0 := 2) (atype := .long) (ty := .long) (a0 := (24, .inr (.inl (fun _ => 0)))) hx hb hts hiX8 hown hin hev hA hl (by simp only [List.length_set]; rfl) hP hD hS TX8_14 (by decide) hf45 rfl hacJ rfl rfl (fun _ => rfl) (by decide) (by decide) (by decide +kernel) (Nat.le_of_ble_eq_true rfl) (Nat.le_of_ble_eq_true rfl) dX8_init_95 (fun _ hk => lv_bipush (v := 24) hx hb dX8_init_96 (by decide) hk) dX8_init_98 dX8_init_100 ?_
  clear hP hD hS
  intro q14 H locs hP hD hS
  refine mi_arr (k := 15) (N := 24) (n := 24) (t0 := 1) (atype := .int) (ty := .int) (a0 := (24, .inl (fun _ => 0))) hx hb hts hiX8 hown hin hev hA hl (by simp only [List.length_set]; rfl) hP hD hS TX8_15 (by decide) hf48 rfl hacI rfl rfl (fun _ => rfl) (by decide) (by decide) (by decide +kernel) (Nat.le_of_ble_eq_true rfl) (Nat.le_of_ble_eq_true rfl) dX8_init_103 (fun _ hk => lv_bipush (v := 24) hx hb dX8_init_104 (by decide) hk) dX8_init_106 dX8_init_108 ?_
  clear hP hD hS
  intro q15 H locs hP hD hS
  refine mi_arr (k := 16) (N := 168) (n := 168) (t0 := 1) (atype := .int) (ty := .int) (a0 := (168, .inl (fun _ => 0))) hx hb hts hiX8 hown hin hev hA hl (by simp only [List.length_set]; rfl) hP hD hS TX8_16 (by decide) hf51 rfl hacI rfl rfl (fun _ => rfl) (by decide) (by decide) (by decide +kernel) (Nat.le_of_ble_eq_true rfl) (Nat.le_of_ble_eq_true rfl) dX8_init_111 (fun _ hk => lv_sipush (v := 168) hx hb dX8_init_112 (by decide) hk) dX8_init_115 dX8_init_117 ?_
  clear hP hD hS
  intro q16 H locs hP hD hS
  refine mi_arr (k := 17) (N := 168) (n := 168) (t0 := 1) (atype := .int) (ty := .int) (a0 := (168, .inl (fun _ => 0))) hx hb hts hiX8 hown hin hev hA hl (by simp only [List.length_set]; rfl) hP hD hS TX8_17 (by decide) hf54 rfl hacI rfl rfl (fun _ => rfl) (by decide) (by decide) (by decide +kernel) (Nat.le_of_ble_eq_true rfl) (Nat.le_of_ble_eq_true rfl) dX8_init_120 (fun _ hk => lv_sipush (v := 168) hx hb dX8_init_121 (by decide) hk) dX8_init_124 dX8_init_126 ?_
  clear hP hD hS
  intro q17 H locs hP hD hS
  refine mi_arr (k := 18) (N := 24) (n := 24) (t0 := 1) (atype := .int) (ty := .int) (a0 := (24, .inl (fun _ => 0))) hx hb hts hiX8 hown hin hev hA hl (by simp only [List.length_set]; rfl) hP hD hS TX8_18 (by decide) hf57 rfl hacI rfl rfl (fun _ => rfl) (by decide) (by decide) (by decide +kernel) (Nat.le_of_ble_eq_true rfl) (Nat.le_of_ble_eq_true rfl) dX8_init_129 (fun _ hk => lv_bipush (v := 24) hx hb dX8_init_130 (by decide) hk) dX8_init_132 dX8_init_134 ?_
  clear hP hD hS
  intro q18 H locs hP hD hS
  refine mi_arr (k := 19) (N := 144) (n := 144) (t0 := 1) (atype := .int) (ty := .int) (a0 := (144, .inl (fun _ => 0))) hx hb hts hiX8 hown hin hev hA hl (by simp only [List.length_set]; rfl) hP hD hS TX8_19 (by decide) hf60 rfl hacI rfl rfl (fun _ => rfl) (by decide) (by decide) (by decide +kernel) (Nat.le_of_ble_eq_true rfl) (Nat.le_of_ble_eq_true rfl) dX8_init_137 (fun _ hk => lv_sipush (v := 144) hx hb dX8_init_138 (by decide) hk) dX8_init_141 dX8_init_143 ?_
  clear hP hD hS
  intro q19 H locs hP hD hS
  refine mi_arr (k := 20) (N := 144) (n := 144) (t0 := 1) (atype := .int) (ty := .int) (a0 := (144, .inl (fun _ => 0))) hx hb hts hiX8 hown hin hev hA hl (by simp only [List.length_set]; rfl) hP hD hS TX8_20 (by decide) hf63 rfl hacI rfl rfl (fun _ => rfl) (by decide) (by decide) (by decide +kernel) (Nat.le_of_ble_eq_true rfl) (Nat.le_of_ble_eq_true rfl) dX8_init_146 (fun _ hk => lv_sipush (v := 144) hx hb dX8_init_147 (by decide) hk) dX8_init_150 dX8_init_152 ?_
  clear hP hD hS
  intro q20 H locs hP hD hS
  refine mi_arr (k := 21) (N := 144) (n := 144) (t0 := 3) (atype := .boolean) (ty := .boolean) (a0 := (144, .inl (fun _ => 0))) hx hb hts hiX8 hown hin hev hA hl (by simp only [List.length_set]; rfl) hP hD hS TX8_21 (by decide) hf66 rfl hacZ rfl rfl (fun _ => rfl) (by decide) (by decide) (by decide +kernel) (Nat.le_of_ble_eq_true rfl) (Nat.le_of_ble_eq_true rfl) dX8_init_155 (fun _ hk => lv_sipush (v := 144) hx hb dX8_init_156 (by decide) hk) dX8_init_159 dX8_init_161 ?_
  clear hP hD hS
  intro q21 H locs hP hD hS
  refine mi_arr (k := 22) (N := 24) (n := 24) (t0 := 1) (atype := .int) (ty := .int) (a0 := (24, .inl (fun _ => 0))) hx hb hts hiX8 hown hin hev hA hl (by simp only [List.length_set]; rfl) hP hD hS TX8_22 (by decide) hf69 rfl hacI rfl rfl (fun _ => rfl) (by decide) (by decide) (by decide +kernel) (Nat.le_of_ble_eq_true rfl) (Nat.le_of_ble_eq_true rfl) dX8_init_164 (fun _ hk => lv_bipush (v := 24) hx hb dX8_init_165 (by decide) hk) dX8_init_167 dX8_init_169 ?_
  clear hP hD hS
  intro q22 H locs hP hD hS
  refine mi_arr (k := 23) (N := 144) (n := 144) (t0 := 1) (atype := .int) (ty := .int) (a0 := (144, .inl (fun _ => 0))) hx hb hts hiX8 hown hin hev hA hl (by simp only [List.length_set]; rfl) hP hD hS TX8_23 (by decide) hf72 rfl hacI rfl rfl (fun _ => rfl) (by decide) (by decide) (by decide +kernel) (Nat.le_of_ble_eq_true rfl) (Nat.le_of_ble_eq_true rfl) dX8_init_172 (fun _ hk => lv_sipush (v := 144) hx hb dX8_init_173 (by decide) hk) dX8_init_176 dX8_init_178 ?_
  clear hP hD hS
  intro q23 H locs hP hD hS
  refine mi_arr (k := 24) (N := 24) (n := 24) (t0 := 1) (atype := .int) (ty := .int) (a0 := (24, .inl (fun _ => 0))) hx hb hts hiX8 hown hin hev hA hl (by simp only [List.length_set]; rfl) hP hD hS TX8_24 (by decide) hf75 rfl hacI rfl rfl (fun _ => rfl) (by decide) (by decide) (by decide +kernel) (Nat.le_of_ble_eq_true rfl) (Nat.le_of_ble_eq_true rfl) dX8_init_181 (fun _ hk => lv_bipush (v := 24) hx hb dX8_init_182 (by decide) hk) dX8_init_184 dX8_init_186 ?_
  clear hP hD hS
  intro q24 H locs hP hD hS
  refine mi_arr (k := 25) (N := 288) (n := 288) (t0 := 1) (atype := .int) (ty := .int) (a0 := (288, .inl (fun _ => 0))) hx hb hts hiX8 hown hin hev hA hl (by simp only [List.length_set]; rfl) hP hD hS TX8_25 (by decide) hf78 rfl hacI rfl rfl (fun _ => rfl) (by decide) (by decide) (by decide +kernel) (Nat.le_of_ble_eq_true rfl) (Nat.le_of_ble_eq_true rfl) dX8_init_189 (fun _ hk => lv_sipush (v := 288) hx hb dX8_init_190 (by decide) hk) dX8_init_193 dX8_init_195 ?_
  clear hP hD hS
  intro q25 H locs hP hD hS
  refine mi_arr (k := 26) (N := 288) (n := 288) (t0 := 2) (atype := .long) (ty := .long) (a0 := (288, .inr (.inl (fun _ => 0)))) hx hb hts hiX8 hown hin hev hA hl (by simp only [List.length_set]; rfl) hP hD hS TX8_26 (by decide) hf81 rfl hacJ rfl rfl (fun _ => rfl) (by decide) (by decide) (by decide +kernel) (Nat.le_of_ble_eq_true rfl) (Nat.le_of_ble_eq_true rfl) dX8_init_198 (fun _ hk => lv_sipush (v := 288) hx hb dX8_init_199 (by decide) hk) dX8_init_202 dX8_init_204 ?_
  clear hP hD hS
  intro q26 H locs hP hD hS
  refine mi_arr (k := 27) (N := 10) (n := 10) (t0 := 1) (atype := .int) (ty := .int) (a0 := (10, .inl (fun _ => 0))) hx hb hts hiX8 hown hin hev hA hl (by simp only [List.length_set]; rfl) hP hD hS TX8_27 (by decide) hf84 rfl hacI rfl rfl (fun _ => rfl) (by decide) (by decide) (by decide +kernel) (Nat.le_of_ble_eq_true rfl) (Nat.le_of_ble_eq_true rfl) dX8_init_207 (fun _ hk => lv_bipush (v := 10) hx hb dX8_init_208 (by decide) hk) dX8_init_210 dX8_init_212 ?_
  clear hP hD hS
  intro q27 H locs hP hD hS
  refine mi_arr (k := 29) (N := 256) (n := 256) (t0 := 1) (atype := .int) (ty := .int) (a0 := (256, .inl (fun _ => 0))) hx hb hts hiX8 hown hin hev hA hl (by simp only [List.length_set]; rfl) hP hD hS TX8_29 (by decide) hf87 rfl hacI rfl rfl (fun _ => rfl) (by decide) (by decide) (by decide +kernel) (Nat.le_of_ble_eq_true rfl) (Nat.le_of_ble_eq_true rfl) dX8_init_215 (fun _ hk => lv_sipush (v := 256) hx hb dX8_init_216 (by decide) hk) dX8_init_219 dX8_init_221 ?_
  clear hP hD hS
  intro q29 H locs hP hD hS
  refine mi_arr (k := 30) (N := 32) (n := 32) (t0 := 1) (atype := .int) (ty := .int) (a0 := (32, .inl (fun _ => 0))) hx hb hts hiX8 hown hin hev hA hl (by simp only [List.length_set]; rfl) hP hD hS TX8_30 (by decide) hf90 rfl hacI rfl rfl (fun _ => rfl) (by decide) (by decide) (by decide +kernel) (Nat.le_of_ble_eq_true rfl) (Nat.le_of_ble_eq_true rfl) dX8_init_224 (fun _ hk => lv_bipush (v := 32) hx hb dX8_init_225 (by decide) hk) dX8_init_227 dX8_init_229 ?_
  clear hP hD hS
  intro q30 H locs hP hD hS
  refine mi_arr (k := 31) (N := 32) (n := 32) (t0 := 1) (atype := .int) (ty := .int) (a0 := (32, .inl (fun _ => 0))) hx hb hts hiX8 hown hin hev hA hl (by simp only [List.length_set]; rfl) hP hD hS TX8_31 (by decide) hf93 rfl hacI rfl rfl (fun _ => rfl) (by decide) (by decide) (by decide +kernel) (Nat.le_of_ble_eq_true rfl) (Nat.le_of_ble_eq_true rfl) dX8_init_232 (fun _ hk => lv_bipush (v := 32) hx hb dX8_init_233 (by decide) hk) dX8_init_235 dX8_init_237 ?_
  clear hP hD hS
  intro q31 H locs hP hD hS
  refine lv_aload_n hx hb dX8_init_240 rfl (lv_at hl 0 rfl) ?_
  refine lv_bipush (v := 8) hx hb dX8_init_241 (by decide) ?_
  refine xnewa (atype := .int) (ty := .int) (cA0 := E.2 1) (N' := 8) (a0 := (8, .inl (fun _ => 0))) hx hb hacI rfl 1 hev rfl hP hD hS hA (fun _ => rfl) (by decide) (by decide) (by decide +kernel) (Nat.le_of_ble_eq_true rfl) (Nat.le_of_ble_eq_true rfl) dX8_init_243 ?_
  clear hP hD hS
  intro q32 H hP hD hS
  refine xsegF hx hb hown hts hev hP hD hS (fun _ h9 => absurd h9 (Nat.not_lt_zero _)) ?_
  clear hP hD hS
  intro H locs fsFS8 hP hD hS zsFS
  refine mi_put (k := 32) (ty := .int) hx hb hts hiX8 hown hin hev (by simp only [List.length_set]; rfl) hP hD hS TX8_32 (by decide) hf104 rfl dX8_init_287 ?_
  clear hP hD hS
  intro H locs hP hD hS
  refine lv_aload_n hx hb dX8_init_290 rfl (lv_at hl 0 rfl) ?_
  refine lv_bipush (v := 64) hx hb dX8_init_291 (by decide) ?_
  refine xnewa (atype := .int) (ty := .int) (cA0 := E.2 1) (N' := 64) (a0 := (64, .inl (fun _ => 0))) hx hb hacI rfl 1 hev rfl hP hD hS hA (fun _ => rfl) (by decide) (by decide) (by decide +kernel) (Nat.le_of_ble_eq_true rfl) (Nat.le_of_ble_eq_true rfl) dX8_init_293 ?_
  clear hP hD hS
  intro q33 H hP hD hS
  refine xsegR0 hx hb hown hts hev hP hD hS (fun _ h9 => absurd h9 (Nat.not_lt_zero _)) ?_
  clear hP hD hS
  intro H locs fsRC8 hP hD hS zsRC
  refine xsegR1 hx hb hown hts hev hP hD hS zsRC ?_
  clear hP hD hS zsRC
  intro H locs fsRC16 hP hD hS zsRC
  refine xsegR2 hx hb hown hts hev hP hD hS zsRC ?_
  clear hP hD hS zsRC
  intro H locs fsRC24 hP hD hS zsRC
  refine xsegR3 hx hb hown hts hev hP hD hS zsRC ?_
  clear hP hD hS zsRC
  intro H locs fsRC32 hP hD hS zsRC
  refine xsegR4 hx hb hown hts hev hP hD hS zsRC ?_
  clear hP hD hS zsRC
  intro H locs fsRC40 hP hD hS zsRC
  refine xsegR5 hx hb hown hts hev hP hD hS zsRC ?_
  clear hP hD hS zsRC
  intro H locs fsRC48 hP hD hS zsRC
  refine xsegR6 hx hb hown hts hev hP hD hS zsRC ?_
  clear hP hD hS zsRC
  intro H locs fsRC56 hP hD hS zsRC
  refine xsegR7 hx hb hown hts hev hP hD hS zsRC ?_
  clear hP hD hS zsRC
  intro H locs fsRC64 hP hD hS zsRC
  refine mi_put (k := 33) (ty := .int) hx hb hts hiX8 hown hin hev (by simp only [List.length_set]; rfl) hP hD hS TX8_33 (by decide) hf171 rfl dX8_init_673 ?_
  clear hP hD hS
  intro H locs hP hD hS
  refine mi_arr (k := 34) (N := 16) (n := 16) (t0 := 1) (atype := .int) (ty := .int) (a0 := (16, .inl (fun _ => 0))) hx hb hts hiX8 hown hin hev hA hl (by simp only [List.length_set]; rfl) hP hD hS TX8_34 (by decide) hf174 rfl hacI rfl rfl (fun _ => rfl) (by decide) (by decide) (by decide +kernel) (Nat.le_of_ble_eq_true rfl) (Nat.le_of_ble_eq_true rfl) dX8_init_676 (fun _ hk => lv_bipush (v := 16) hx hb dX8_init_677 (by decide) hk) dX8_init_679 dX8_init_681 ?_
  clear hP hD hS
  intro q34 H locs hP hD hS
  refine mi_arr (k := 35) (N := 8) (n := 8) (t0 := 1) (atype := .int) (ty := .int) (a0 := (8, .inl (fun _ => 0))) hx hb hts hiX8 hown hin hev hA hl (by simp only [List.length_set]; rfl) hP hD hS TX8_35 (by decide) hf177 rfl hacI rfl rfl (fun _ => rfl) (by decide) (by decide) (by decide +kernel) (Nat.le_of_ble_eq_true rfl) (Nat.le_of_ble_eq_true rfl) dX8_init_684 (fun _ hk => lv_bipush (v := 8) hx hb dX8_init_685 (by decide) hk) dX8_init_687 dX8_init_689 ?_
  clear hP hD hS
  intro q35 H locs hP hD hS
  refine mi_arr (k := 36) (N := 8) (n := 8) (t0 := 1) (atype := .int) (ty := .int) (a0 := (8, .inl (fun _ => 0))) hx hb hts hiX8 hown hin hev hA hl (by simp only [List.length_set]; rfl) hP hD hS TX8_36 (by decide) hf180 rfl hacI rfl rfl (fun _ => rfl) (by decide) (by decide) (by decide +kernel) (Nat.le_of_ble_eq_true rfl) (Nat.le_of_ble_eq_true rfl) dX8_init_692 (fun _ hk => lv_bipush (v := 8) hx hb dX8_init_693 (by decide) hk) dX8_init_695 dX8_init_697 ?_
  clear hP hD hS
  intro q36 H locs hP hD hS
  refine mi_arr (k := 37) (N := 10) (n := 10) (t0 := 3) (atype := .boolean) (ty := .boolean) (a0 := (10, .inl (fun _ => 0))) hx hb hts hiX8 hown hin hev hA hl (by simp only [List.length_set]; rfl) hP hD hS TX8_37 (by decide) hf183 rfl hacZ rfl rfl (fun _ => rfl) (by decide) (by decide) (by decide +kernel) (Nat.le_of_ble_eq_true rfl) (Nat.le_of_ble_eq_true rfl) dX8_init_700 (fun _ hk => lv_bipush (v := 10) hx hb dX8_init_701 (by decide) hk) dX8_init_703 dX8_init_705 ?_
  clear hP hD hS
  intro q37 H locs hP hD hS
  refine mi_arr (k := 39) (N := 12) (n := 12) (t0 := 1) (atype := .int) (ty := .int) (a0 := (12, .inl (fun _ => 0))) hx hb hts hiX8 hown hin hev hA hl (by simp only [List.length_set]; rfl) hP hD hS TX8_39 (by decide) hf186 rfl hacI rfl rfl (fun _ => rfl) (by decide) (by decide) (by decide +kernel) (Nat.le_of_ble_eq_true rfl) (Nat.le_of_ble_eq_true rfl) dX8_init_708 (fun _ hk => lv_bipush (v := 12) hx hb dX8_init_709 (by decide) hk) dX8_init_711 dX8_init_713 ?_
  clear hP hD hS
  intro q39 H locs hP hD hS
  refine mi_arr (k := 40) (N := 12) (n := 12) (t0 := 1) (atype := .int) (ty := .int) (a0 := (12, .inl (fun _ => 0))) hx hb hts hiX8 hown hin hev hA hl (by simp only [List.length_set]; rfl) hP hD hS TX8_40 (by decide) hf189 rfl hacI rfl rfl (fun _ => rfl) (by decide) (by decide) (by decide +kernel) (Nat.le_of_ble_eq_true rfl) (Nat.le_of_ble_eq_true rfl) dX8_init_716 (fun _ hk => lv_bipush (v := 12) hx hb dX8_init_717 (by decide) hk) dX8_init_719 dX8_init_721 ?_
  clear hP hD hS
  intro q40 H locs hP hD hS
  exact mi_tail (ad := fun k => ([0, 0, 0, q3, q4, q5, q6, q7, q8, q9, q10, q11, q12, q13, q14, q15, q16, q17, q18, q19, q20, q21, q22, q23, q24, q25, q26, q27, 0, q29, q30, q31, q32, q33, q34, q35, q36, q37, 0, q39, q40] : List Nat).getD k 0) zsFS zsRC hx hb hr hlocks hts hiX8 hown hev hP hD hS hl
