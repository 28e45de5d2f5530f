/-! THE LAW: its cases -/
set_option maxHeartbeats 4000000 in
set_option maxRecDepth 100000 in
theorem lc_key {p : Program} {l : Launch} {e : Env} {s : State} {m : MethodId} {below : List Frame} {meth : Method} {c : Code} {H : Heap} {locs : List Loc} {cells slots : Nat} {Q : State → Prop} {b L : Nat} {xs : Nat → Int32} {E : xE} {ls : Array Slot} {ax : Nat → Nat} {mo : Nat} {ad : Nat → Nat} {o i : Nat} {kn nn ln : Nat} {fs fu : Nat → Int64} {gi : Nat → Nat → Int32} {ra : Nat → Nat} {pr : Nat → RowP} {ci : Nat → Option Nat} {rev sea : Int32} {th : Int32} {mn dp : Nat} {am : Nat → Nat → Int32} {al : Nat → Nat → Int64} {fo : Nat → Int64} (G : LG p s m c b L xs E) (hi : i + 5 ≤ L) (R0 : Rl kn nn fs fu (gi 0) (gi 1) pr ci rev (gi 5) am al) (hP : va_P E.1 vwCl (CW E ax kn nn ln fs fu gi ra pr ci rev sea ++ (MW E mo ad th kn nn mn dp am al ++ [(o, aJ E 1 fo)])) H) (hD : va_D (lA s) (CW E ax kn nn ln fs fu gi ra pr ci rev sea ++ (MW E mo ad th kn nn mn dp am al ++ [(o, aJ E 1 fo)]))) (hS : va_S (lA s) s.heap H locs) (hl : lv_has ls 7 [(0, .ref b), (1, .ref (ax 0)), (2, .ref mo), (3, .ref o), (4, .int (nI i))]) (hc : cells + 13 ≤ 601024) (hs : slots + 96 ≤ 7293034) (kk : lKK p l e s m below meth c Q b E ax mo ad o i cells slots) : W p l e room_1 s m #[Value.ref b] below meth c H locs cells slots Q (F0 m 128 ls []) := by
  have G0 := G
  obtain ⟨hx, hb, hml, hown, hts, -, hev, hz⟩ := G0
  have htl : ∀ w ∈ wsL_law, w.before #[Value.ref b] s = true := fun w hw => hts w (wsL_law_all w hw)
  have hA : ∀ q : Nat, s.heap.size ≤ q → lA s q := fun q hq => hq
  have hN : va_P E.1 vwCl ([] : va_W) s.heap := va_P.of (fun q hq => by cases hq)
  have hN2 : ∀ q ∈ ([] : va_W), ¬ lA s q.1 := fun q hq => by cases hq
  refine lv_aload_n hx hb dL_law_128 rfl (lv_at hl 1 rfl) ?_
  refine la_l G hS hl (lv_at hl 4 rfl) (k := 1) rfl rfl (by omega) dL_law_129 dL_law_130 dL_law_132 dL_law_133 dL_law_134 dL_law_135 dL_law_136 dL_law_138 dL_law_139 dL_law_140 dL_law_142 dL_law_143 dL_law_144 dL_law_145 dL_law_146 dL_law_149 dL_law_150 ?_
  refine la_l G hS hl (lv_at hl 4 rfl) (k := 3) rfl rfl (by omega) dL_law_151 dL_law_152 dL_law_154 dL_law_155 dL_law_156 dL_law_157 dL_law_158 dL_law_160 dL_law_161 dL_law_162 dL_law_164 dL_law_165 dL_law_166 dL_law_167 dL_law_168 dL_law_171 dL_law_172 ?_
  refine xci (va_runV (As := [.long (lng (xs (i + 1)) (xs (i + (1 + 1)))), .long (lng (xs (i + 3)) (xs (i + (3 + 1))))]) (rest := []) ⟨hx, hb, hml, hown, htl⟩ (cw_key l E ax kn nn ln fs fu gi ra pr ci rev sea (lng (xs (i + 1)) (xs (i + (1 + 1)))) (lng (xs (i + 3)) (xs (i + (3 + 1)))) R0.1.1 H.size) (cwV 2 htl gL_law_X7_key rfl rfl rfl (by decide +kernel) ⟨by decide, by decide⟩) ⟨CP.blind, va_recv hev.1 hP (ci := 8) (q0 := 0) rfl rfl, xpre hev hz hA hP hD hS hN hN2 [] rfl⟩ rfl rfl hl.1 rfl (lv_room (Nat.le_of_ble_eq_true rfl)) dL_law_173 ⟨(by show cells + 0 ≤ 601024; omega), (by show slots + 0 ≤ 7293034; omega)⟩) hP hD hS hA (fun r w H locs hp hP hD hS => ?_)
  have hP := hP.perm pca
  have hD := hD.perm pca
  refine lv_aload_n hx hb dL_law_176 rfl (lv_at hl 2 rfl) ?_
  refine la_l G hS hl (lv_at hl 4 rfl) (k := 1) rfl rfl (by omega) dL_law_177 dL_law_178 dL_law_180 dL_law_181 dL_law_182 dL_law_183 dL_law_184 dL_law_186 dL_law_187 dL_law_188 dL_law_190 dL_law_191 dL_law_192 dL_law_193 dL_law_194 dL_law_197 dL_law_198 ?_
  refine la_l G hS hl (lv_at hl 4 rfl) (k := 3) rfl rfl (by omega) dL_law_199 dL_law_200 dL_law_202 dL_law_203 dL_law_204 dL_law_205 dL_law_206 dL_law_208 dL_law_209 dL_law_210 dL_law_212 dL_law_213 dL_law_214 dL_law_215 dL_law_216 dL_law_219 dL_law_220 ?_
  refine xci (va_runV (As := [.long (lng (xs (i + 1)) (xs (i + (1 + 1)))), .long (lng (xs (i + 3)) (xs (i + (3 + 1))))]) (rest := [.int r]) ⟨hx, hb, hml, hown, htl⟩ (mw_key l E mo ad th kn nn mn dp am al pr ci (lng (xs (i + 1)) (xs (i + (1 + 1)))) (lng (xs (i + 3)) (xs (i + (3 + 1)))) R0.1.1 H.size) (cwV 2 htl gL_law_X8_key rfl rfl rfl (by decide +kernel) ⟨by decide, by decide⟩) ⟨CP.blind, va_recv hev.1 hP (ci := 9) (q0 := 0) rfl rfl, xpre hev hz hA hP hD hS hN hN2 [] rfl⟩ rfl rfl hl.1 rfl (lv_room (Nat.le_of_ble_eq_true rfl)) dL_law_221 ⟨(by show cells + 0 + 0 ≤ 601024; omega), (by show slots + 0 + 0 ≤ 7293034; omega)⟩) hP hD hS hA (fun r2 w2 H locs hm hP hD hS => ?_)
  obtain ⟨rfl, hLI⟩ := bd_key R0 hp hm
  have hP := hP.perm pca
  have hD := hD.perm pca
  refine lv_icmp_eq (tgt := 1087) hx hb dL_law_224 (by decide) (fun _ => kk H locs _ _ w w2 fo ls hLI hP hD hS hl (by omega) (by omega)) (fun hne => absurd rfl hne)
set_option maxHeartbeats 4000000 in
set_option maxRecDepth 100000 in
theorem lc_quorum {p : Program} {l : Launch} {e : Env} {s : State} {m : MethodId} {below : List Frame} {meth : Method} {c : Code} {H : Heap} {locs : List Loc} {cells slots : Nat} {Q : State → Prop} {b L : Nat} {xs : Nat → Int32} {E : xE} {ls : Array Slot} {ax : Nat → Nat} {mo : Nat} {ad : Nat → Nat} {o i : Nat} {kn nn ln : Nat} {fs fu : Nat → Int64} {gi : Nat → Nat → Int32} {ra : Nat → Nat} {pr : Nat → RowP} {ci : Nat → Option Nat} {rev sea : Int32} {th : Int32} {mn dp : Nat} {am : Nat → Nat → Int32} {al : Nat → Nat → Int64} {fo : Nat → Int64} (G : LG p s m c b L xs E) (hi : i + 5 ≤ L) (R0 : Rl kn nn fs fu (gi 0) (gi 1) pr ci rev (gi 5) am al) (hP : va_P E.1 vwCl (CW E ax kn nn ln fs fu gi ra pr ci rev sea ++ (MW E mo ad th kn nn mn dp am al ++ [(o, aJ E 1 fo)])) H) (hD : va_D (lA s) (CW E ax kn nn ln fs fu gi ra pr ci rev sea ++ (MW E mo ad th kn nn mn dp am al ++ [(o, aJ E 1 fo)]))) (hS : va_S (lA s) s.heap H locs) (hl : lv_has ls 7 [(0, .ref b), (1, .ref (ax 0)), (2, .ref mo), (3, .ref o), (4, .int (nI i))]) (hc : cells + 13 ≤ 601024) (hs : slots + 96 ≤ 7293034) (kk : lKK p l e s m below meth c Q b E ax mo ad o i cells slots) : W p l e room_1 s m #[Value.ref b] below meth c H locs cells slots Q (F0 m 229 ls []) := by
  have G0 := G
  obtain ⟨hx, hb, hml, hown, hts, -, hev, hz⟩ := G0
  have htl : ∀ w ∈ wsL_law, w.before #[Value.ref b] s = true := fun w hw => hts w (wsL_law_all w hw)
  have hA : ∀ q : Nat, s.heap.size ≤ q → lA s q := fun q hq => hq
  have hN : va_P E.1 vwCl ([] : va_W) s.heap := va_P.of (fun q hq => by cases hq)
  have hN2 : ∀ q ∈ ([] : va_W), ¬ lA s q.1 := fun q hq => by cases hq
  refine lv_aload_n hx hb dL_law_229 rfl (lv_at hl 1 rfl) ?_
  refine la_i G hS hl (lv_at hl 4 rfl) (k := 1) rfl (by omega) dL_law_230 dL_law_231 dL_law_233 dL_law_234 dL_law_235 ?_
  refine la_i G hS hl (lv_at hl 4 rfl) (k := 2) rfl (by omega) dL_law_236 dL_law_237 dL_law_239 dL_law_240 dL_law_241 ?_
  refine xci (va_runV (As := [.int (xs (i + 1)), .int (xs (i + 2))]) (rest := []) ⟨hx, hb, hml, hown, htl⟩ (cw_quorum l E ax kn nn ln fs fu gi ra pr ci rev sea (xs (i + 1)) (xs (i + 2))  H.size) (cwV 2 htl gL_law_X7_quorum rfl rfl rfl (by decide +kernel) ⟨by decide, by decide⟩) ⟨CP.blind, va_recv hev.1 hP (ci := 8) (q0 := 0) rfl rfl, xpre hev hz hA hP hD hS hN hN2 [] rfl⟩ rfl rfl hl.1 rfl (lv_room (Nat.le_of_ble_eq_true rfl)) dL_law_242 ⟨(by show cells + 0 ≤ 601024; omega), (by show slots + 0 ≤ 7293034; omega)⟩) hP hD hS hA (fun r w H locs hp hP hD hS => ?_)
  have hP := hP.perm pca
  have hD := hD.perm pca
  refine lv_aload_n hx hb dL_law_245 rfl (lv_at hl 2 rfl) ?_
  refine la_i G hS hl (lv_at hl 4 rfl) (k := 1) rfl (by omega) dL_law_246 dL_law_247 dL_law_249 dL_law_250 dL_law_251 ?_
  refine la_i G hS hl (lv_at hl 4 rfl) (k := 2) rfl (by omega) dL_law_252 dL_law_253 dL_law_255 dL_law_256 dL_law_257 ?_
  refine xci (va_runV (As := [.int (xs (i + 1)), .int (xs (i + 2))]) (rest := [.int r]) ⟨hx, hb, hml, hown, htl⟩ (mw_quorum l E mo ad th kn nn mn dp am al pr ci (xs (i + 1)) (xs (i + 2))  H.size) (cwV 2 htl gL_law_X8_quorum rfl rfl rfl (by decide +kernel) ⟨by decide, by decide⟩) ⟨CP.blind, va_recv hev.1 hP (ci := 9) (q0 := 0) rfl rfl, xpre hev hz hA hP hD hS hN hN2 [] rfl⟩ rfl rfl hl.1 rfl (lv_room (Nat.le_of_ble_eq_true rfl)) dL_law_258 ⟨(by show cells + 0 + 0 ≤ 601024; omega), (by show slots + 0 + 0 ≤ 7293034; omega)⟩) hP hD hS hA (fun r2 w2 H locs hm hP hD hS => ?_)
  obtain ⟨rfl, hLI⟩ := bd_quorum R0 hp hm
  have hP := hP.perm pca
  have hD := hD.perm pca
  refine lv_icmp_eq (tgt := 1087) hx hb dL_law_261 (by decide) (fun _ => kk H locs _ _ w w2 fo ls hLI hP hD hS hl (by omega) (by omega)) (fun hne => absurd rfl hne)
set_option maxHeartbeats 4000000 in
set_option maxRecDepth 100000 in
theorem lc_holds {p : Program} {l : Launch} {e : Env} {s : State} {m : MethodId} {below : List Frame} {meth : Method} {c : Code} {H : Heap} {locs : List Loc} {cells slots : Nat} {Q : State → Prop} {b L : Nat} {xs : Nat → Int32} {E : xE} {ls : Array Slot} {ax : Nat → Nat} {mo : Nat} {ad : Nat → Nat} {o i : Nat} {kn nn ln : Nat} {fs fu : Nat → Int64} {gi : Nat → Nat → Int32} {ra : Nat → Nat} {pr : Nat → RowP} {ci : Nat → Option Nat} {rev sea : Int32} {th : Int32} {mn dp : Nat} {am : Nat → Nat → Int32} {al : Nat → Nat → Int64} {fo : Nat → Int64} (G : LG p s m c b L xs E) (hi : i + 5 ≤ L) (R0 : Rl kn nn fs fu (gi 0) (gi 1) pr ci rev (gi 5) am al) (hP : va_P E.1 vwCl (CW E ax kn nn ln fs fu gi ra pr ci rev sea ++ (MW E mo ad th kn nn mn dp am al ++ [(o, aJ E 1 fo)])) H) (hD : va_D (lA s) (CW E ax kn nn ln fs fu gi ra pr ci rev sea ++ (MW E mo ad th kn nn mn dp am al ++ [(o, aJ E 1 fo)]))) (hS : va_S (lA s) s.heap H locs) (hl : lv_has ls 7 [(0, .ref b), (1, .ref (ax 0)), (2, .ref mo), (3, .ref o), (4, .int (nI i))]) (hc : cells + 13 ≤ 601024) (hs : slots + 96 ≤ 7293034) (kk : lKK p l e s m below meth c Q b E ax mo ad o i cells slots) : W p l e room_1 s m #[Value.ref b] below meth c H locs cells slots Q (F0 m 266 ls []) := by
  have G0 := G
  obtain ⟨hx, hb, hml, hown, hts, -, hev, hz⟩ := G0
  have htl : ∀ w ∈ wsL_law, w.before #[Value.ref b] s = true := fun w hw => hts w (wsL_law_all w hw)
  have hA : ∀ q : Nat, s.heap.size ≤ q → lA s q := fun q hq => hq
  have hN : va_P E.1 vwCl ([] : va_W) s.heap := va_P.of (fun q hq => by cases hq)
  have hN2 : ∀ q ∈ ([] : va_W), ¬ lA s q.1 := fun q hq => by cases hq
  refine lv_aload_n hx hb dL_law_266 rfl (lv_at hl 1 rfl) ?_
  refine la_i G hS hl (lv_at hl 4 rfl) (k := 1) rfl (by omega) dL_law_267 dL_law_268 dL_law_270 dL_law_271 dL_law_272 ?_
  refine la_i G hS hl (lv_at hl 4 rfl) (k := 2) rfl (by omega) dL_law_273 dL_law_274 dL_law_276 dL_law_277 dL_law_278 ?_
  refine la_b G hS hl (lv_at hl 4 rfl) (k := 3) rfl (by omega) dL_law_279 dL_law_280 dL_law_282 dL_law_283 dL_law_284 dL_law_285 dL_law_288 dL_law_289 dL_law_292 ?_
  refine xci (va_runV (As := [.int (xs (i + 1)), .int (xs (i + 2)), .int (b01 (xs (i + 3)))]) (rest := []) ⟨hx, hb, hml, hown, htl⟩ (cw_holds l E ax kn nn ln fs fu gi ra pr ci rev sea (xs (i + 1)) (xs (i + 2)) (b01 (xs (i + 3))) R0.1.1 H.size) (cwV 3 htl gL_law_X7_holds rfl rfl rfl (by decide +kernel) ⟨by decide, by decide⟩) ⟨CP.blind, va_recv hev.1 hP (ci := 8) (q0 := 0) rfl rfl, xpre hev hz hA hP hD hS hN hN2 [] rfl⟩ rfl rfl hl.1 rfl (lv_room (Nat.le_of_ble_eq_true rfl)) dL_law_293 ⟨(by show cells + 0 ≤ 601024; omega), (by show slots + 0 ≤ 7293034; omega)⟩) hP hD hS hA (fun r w H locs hp hP hD hS => ?_)
  have hP := hP.perm pca
  have hD := hD.perm pca
  refine lv_aload_n hx hb dL_law_296 rfl (lv_at hl 2 rfl) ?_
  refine la_i G hS hl (lv_at hl 4 rfl) (k := 1) rfl (by omega) dL_law_297 dL_law_298 dL_law_300 dL_law_301 dL_law_302 ?_
  refine la_i G hS hl (lv_at hl 4 rfl) (k := 2) rfl (by omega) dL_law_303 dL_law_304 dL_law_306 dL_law_307 dL_law_308 ?_
  refine la_b G hS hl (lv_at hl 4 rfl) (k := 3) rfl (by omega) dL_law_309 dL_law_310 dL_law_312 dL_law_313 dL_law_314 dL_law_315 dL_law_318 dL_law_319 dL_law_322 ?_
  refine xci (va_runV (As := [.int (xs (i + 1)), .int (xs (i + 2)), .int (b01 (xs (i + 3)))]) (rest := [.int r]) ⟨hx, hb, hml, hown, htl⟩ (mw_holds l E mo ad th kn nn mn dp am al pr ci (xs (i + 1)) (xs (i + 2)) (b01 (xs (i + 3))) R0.1.1 H.size) (cwV 3 htl gL_law_X8_holds rfl rfl rfl (by decide +kernel) ⟨by decide, by decide⟩) ⟨CP.blind, va_recv hev.1 hP (ci := 9) (q0 := 0) rfl rfl, xpre hev hz hA hP hD hS hN hN2 [] rfl⟩ rfl rfl hl.1 rfl (lv_room (Nat.le_of_ble_eq_true rfl)) dL_law_323 ⟨(by show cells + 0 + 0 ≤ 601024; omega), (by show slots + 0 + 0 ≤ 7293034; omega)⟩) hP hD hS hA (fun r2 w2 H locs hm hP hD hS => ?_)
  obtain ⟨rfl, hLI⟩ := bd_holds R0 hp hm
  have hP := hP.perm pca
  have hD := hD.perm pca
  refine lv_icmp_eq (tgt := 1087) hx hb dL_law_326 (by decide) (fun _ => kk H locs _ _ w w2 fo ls hLI hP hD hS hl (by omega) (by omega)) (fun hne => absurd rfl hne)
set_option maxHeartbeats 4000000 in
set_option maxRecDepth 100000 in
theorem lc_row {p : Program} {l : Launch} {e : Env} {s : State} {m : MethodId} {below : List Frame} {meth : Method} {c : Code} {H : Heap} {locs : List Loc} {cells slots : Nat} {Q : State → Prop} {b L : Nat} {xs : Nat → Int32} {E : xE} {ls : Array Slot} {ax : Nat → Nat} {mo : Nat} {ad : Nat → Nat} {o i : Nat} {kn nn ln : Nat} {fs fu : Nat → Int64} {gi : Nat → Nat → Int32} {ra : Nat → Nat} {pr : Nat → RowP} {ci : Nat → Option Nat} {rev sea : Int32} {th : Int32} {mn dp : Nat} {am : Nat → Nat → Int32} {al : Nat → Nat → Int64} {fo : Nat → Int64} (G : LG p s m c b L xs E) (hi : i + 5 ≤ L) (R0 : Rl kn nn fs fu (gi 0) (gi 1) pr ci rev (gi 5) am al) (hP : va_P E.1 vwCl (CW E ax kn nn ln fs fu gi ra pr ci rev sea ++ (MW E mo ad th kn nn mn dp am al ++ [(o, aJ E 1 fo)])) H) (hD : va_D (lA s) (CW E ax kn nn ln fs fu gi ra pr ci rev sea ++ (MW E mo ad th kn nn mn dp am al ++ [(o, aJ E 1 fo)]))) (hS : va_S (lA s) s.heap H locs) (hl : lv_has ls 7 [(0, .ref b), (1, .ref (ax 0)), (2, .ref mo), (3, .ref o), (4, .int (nI i))]) (hc : cells + 13 ≤ 601024) (hs : slots + 96 ≤ 7293034) (kk : lKK p l e s m below meth c Q b E ax mo ad o i cells slots) : W p l e room_1 s m #[Value.ref b] below meth c H locs cells slots Q (F0 m 331 ls []) := by
  have G0 := G
  obtain ⟨hx, hb, hml, hown, hts, -, hev, hz⟩ := G0
  have htl : ∀ w ∈ wsL_law, w.before #[Value.ref b] s = true := fun w hw => hts w (wsL_law_all w hw)
  have hA : ∀ q : Nat, s.heap.size ≤ q → lA s q := fun q hq => hq
  have hN : va_P E.1 vwCl ([] : va_W) s.heap := va_P.of (fun q hq => by cases hq)
  have hN2 : ∀ q ∈ ([] : va_W), ¬ lA s q.1 := fun q hq => by cases hq
  refine lv_aload_n hx hb dL_law_331 rfl (lv_at hl 1 rfl) ?_
  refine la_i G hS hl (lv_at hl 4 rfl) (k := 1) rfl (by omega) dL_law_332 dL_law_333 dL_law_335 dL_law_336 dL_law_337 ?_
  refine la_i G hS hl (lv_at hl 4 rfl) (k := 2) rfl (by omega) dL_law_338 dL_law_339 dL_law_341 dL_law_342 dL_law_343 ?_
  refine la_l G hS hl (lv_at hl 4 rfl) (k := 3) rfl rfl (by omega) dL_law_344 dL_law_345 dL_law_347 dL_law_348 dL_law_349 dL_law_350 dL_law_351 dL_law_353 dL_law_354 dL_law_355 dL_law_357 dL_law_358 dL_law_359 dL_law_360 dL_law_361 dL_law_364 dL_law_365 ?_
  refine xci (va_runV (As := [.int (xs (i + 1)), .int (xs (i + 2)), .long (lng (xs (i + 3)) (xs (i + (3 + 1))))]) (rest := []) ⟨hx, hb, hml, hown, htl⟩ (cw_row l E ax kn nn ln fs fu gi ra pr ci rev sea (xs (i + 1)) (xs (i + 2)) (lng (xs (i + 3)) (xs (i + (3 + 1)))) R0.1.2 (fun j i h => (R0.2.2.2.2.2.1 j i h).1) H.size) (cwV 3 htl gL_law_X7_row rfl rfl rfl (by decide +kernel) ⟨by decide, by decide⟩) ⟨CP.blind, va_recv hev.1 hP (ci := 8) (q0 := 0) rfl rfl, xpre hev hz hA hP hD hS hN hN2 [] rfl⟩ rfl rfl hl.1 rfl (lv_room (Nat.le_of_ble_eq_true rfl)) dL_law_366 ⟨(by show cells + 13 ≤ 601024; omega), (by show slots + 96 ≤ 7293034; omega)⟩) hP hD hS hA (fun r w H locs hp hP hD hS => ?_)
  have hP := hP.perm pca
  have hD := hD.perm pca
  refine lv_aload_n hx hb dL_law_369 rfl (lv_at hl 2 rfl) ?_
  refine la_i G hS hl (lv_at hl 4 rfl) (k := 1) rfl (by omega) dL_law_370 dL_law_371 dL_law_373 dL_law_374 dL_law_375 ?_
  refine la_i G hS hl (lv_at hl 4 rfl) (k := 2) rfl (by omega) dL_law_376 dL_law_377 dL_law_379 dL_law_380 dL_law_381 ?_
  refine la_l G hS hl (lv_at hl 4 rfl) (k := 3) rfl rfl (by omega) dL_law_382 dL_law_383 dL_law_385 dL_law_386 dL_law_387 dL_law_388 dL_law_389 dL_law_391 dL_law_392 dL_law_393 dL_law_395 dL_law_396 dL_law_397 dL_law_398 dL_law_399 dL_law_402 dL_law_403 ?_
  refine xci (va_runV (As := [.int (xs (i + 1)), .int (xs (i + 2)), .long (lng (xs (i + 3)) (xs (i + (3 + 1))))]) (rest := [.int r]) ⟨hx, hb, hml, hown, htl⟩ (mw_row l E mo ad th kn nn mn dp am al pr ci (xs (i + 1)) (xs (i + 2)) (lng (xs (i + 3)) (xs (i + (3 + 1)))) R0.1.2 H.size) (cwV 3 htl gL_law_X8_row rfl rfl rfl (by decide +kernel) ⟨by decide, by decide⟩) ⟨CP.blind, va_recv hev.1 hP (ci := 9) (q0 := 0) rfl rfl, xpre hev hz hA hP hD hS hN hN2 [] rfl⟩ rfl rfl hl.1 rfl (lv_room (Nat.le_of_ble_eq_true rfl)) dL_law_404 ⟨(by show cells + 13 + 0 ≤ 601024; omega), (by show slots + 96 + 0 ≤ 7293034; omega)⟩) hP hD hS hA (fun r2 w2 H locs hm hP hD hS => ?_)
  obtain ⟨rfl, hLI⟩ := bd_row R0 hp hm
  have hP := hP.perm pca
  have hD := hD.perm pca
  refine lv_icmp_eq (tgt := 1087) hx hb dL_law_407 (by decide) (fun _ => kk H locs _ _ w w2 fo ls hLI hP hD hS hl (by omega) (by omega)) (fun hne => absurd rfl hne)
set_option maxHeartbeats 4000000 in
set_option maxRecDepth 100000 in
theorem lc_octet {p : Program} {l : Launch} {e : Env} {s : State} {m : MethodId} {below : List Frame} {meth : Method} {c : Code} {H : Heap} {locs : List Loc} {cells slots : Nat} {Q : State → Prop} {b L : Nat} {xs : Nat → Int32} {E : xE} {ls : Array Slot} {ax : Nat → Nat} {mo : Nat} {ad : Nat → Nat} {o i : Nat} {kn nn ln : Nat} {fs fu : Nat → Int64} {gi : Nat → Nat → Int32} {ra : Nat → Nat} {pr : Nat → RowP} {ci : Nat → Option Nat} {rev sea : Int32} {th : Int32} {mn dp : Nat} {am : Nat → Nat → Int32} {al : Nat → Nat → Int64} {fo : Nat → Int64} (G : LG p s m c b L xs E) (hi : i + 5 ≤ L) (R0 : Rl kn nn fs fu (gi 0) (gi 1) pr ci rev (gi 5) am al) (hP : va_P E.1 vwCl (CW E ax kn nn ln fs fu gi ra pr ci rev sea ++ (MW E mo ad th kn nn mn dp am al ++ [(o, aJ E 1 fo)])) H) (hD : va_D (lA s) (CW E ax kn nn ln fs fu gi ra pr ci rev sea ++ (MW E mo ad th kn nn mn dp am al ++ [(o, aJ E 1 fo)]))) (hS : va_S (lA s) s.heap H locs) (hl : lv_has ls 7 [(0, .ref b), (1, .ref (ax 0)), (2, .ref mo), (3, .ref o), (4, .int (nI i))]) (hc : cells + 13 ≤ 601024) (hs : slots + 96 ≤ 7293034) (kk : lKK p l e s m below meth c Q b E ax mo ad o i cells slots) : W p l e room_1 s m #[Value.ref b] below meth c H locs cells slots Q (F0 m 412 ls []) := by
  have G0 := G
  obtain ⟨hx, hb, hml, hown, hts, -, hev, hz⟩ := G0
  have htl : ∀ w ∈ wsL_law, w.before #[Value.ref b] s = true := fun w hw => hts w (wsL_law_all w hw)
  have hA : ∀ q : Nat, s.heap.size ≤ q → lA s q := fun q hq => hq
  have hN : va_P E.1 vwCl ([] : va_W) s.heap := va_P.of (fun q hq => by cases hq)
  have hN2 : ∀ q ∈ ([] : va_W), ¬ lA s q.1 := fun q hq => by cases hq
  refine lv_aload_n hx hb dL_law_412 rfl (lv_at hl 1 rfl) ?_
  refine la_i G hS hl (lv_at hl 4 rfl) (k := 1) rfl (by omega) dL_law_413 dL_law_414 dL_law_416 dL_law_417 dL_law_418 ?_
  refine la_i G hS hl (lv_at hl 4 rfl) (k := 2) rfl (by omega) dL_law_419 dL_law_420 dL_law_422 dL_law_423 dL_law_424 ?_
  refine xci (va_runV (As := [.int (xs (i + 1)), .int (xs (i + 2))]) (rest := []) ⟨hx, hb, hml, hown, htl⟩ (cw_octet l E ax kn nn ln fs fu gi ra pr ci rev sea (xs (i + 1)) (xs (i + 2)) R0.1.2 (fun i hi => (R0.2.2.2.1 i hi).1.1) H.size) (cwV 2 htl gL_law_X7_octet rfl rfl rfl (by decide +kernel) ⟨by decide, by decide⟩) ⟨CP.blind, va_recv hev.1 hP (ci := 8) (q0 := 0) rfl rfl, xpre hev hz hA hP hD hS hN hN2 [] rfl⟩ rfl rfl hl.1 rfl (lv_room (Nat.le_of_ble_eq_true rfl)) dL_law_425 ⟨(by show cells + 0 ≤ 601024; omega), (by show slots + 0 ≤ 7293034; omega)⟩) hP hD hS hA (fun r w H locs hp hP hD hS => ?_)
  have hP := hP.perm pca
  have hD := hD.perm pca
  refine lv_aload_n hx hb dL_law_428 rfl (lv_at hl 2 rfl) ?_
  refine la_i G hS hl (lv_at hl 4 rfl) (k := 1) rfl (by omega) dL_law_429 dL_law_430 dL_law_432 dL_law_433 dL_law_434 ?_
  refine la_i G hS hl (lv_at hl 4 rfl) (k := 2) rfl (by omega) dL_law_435 dL_law_436 dL_law_438 dL_law_439 dL_law_440 ?_
  refine xci (va_runV (As := [.int (xs (i + 1)), .int (xs (i + 2))]) (rest := [.int r]) ⟨hx, hb, hml, hown, htl⟩ (mw_octet l E mo ad th kn nn mn dp am al pr ci (xs (i + 1)) (xs (i + 2)) (Rl.mok R0) R0.1.2 H.size) (cwV 2 htl gL_law_X8_octet rfl rfl rfl (by decide +kernel) ⟨by decide, by decide⟩) ⟨CP.blind, va_recv hev.1 hP (ci := 9) (q0 := 0) rfl rfl, xpre hev hz hA hP hD hS hN hN2 [] rfl⟩ rfl rfl hl.1 rfl (lv_room (Nat.le_of_ble_eq_true rfl)) dL_law_441 ⟨(by show cells + 0 + 0 ≤ 601024; omega), (by show slots + 0 + 0 ≤ 7293034; omega)⟩) hP hD hS hA (fun r2 w2 H locs hm hP hD hS => ?_)
  obtain ⟨rfl, hLI⟩ := bd_octet R0 hp hm
  have hP := hP.perm pca
  have hD := hD.perm pca
  refine lv_icmp_eq (tgt := 1087) hx hb dL_law_444 (by decide) (fun _ => kk H locs _ _ w w2 fo ls hLI hP hD hS hl (by omega) (by omega)) (fun hne => absurd rfl hne)
set_option maxHeartbeats 4000000 in
set_option maxRecDepth 100000 in
theorem lc_tells {p : Program} {l : Launch} {e : Env} {s : State} {m : MethodId} {below : List Frame} {meth : Method} {c : Code} {H : Heap} {locs : List Loc} {cells slots : Nat} {Q : State → Prop} {b L : Nat} {xs : Nat → Int32} {E : xE} {ls : Array Slot} {ax : Nat → Nat} {mo : Nat} {ad : Nat → Nat} {o i : Nat} {kn nn ln : Nat} {fs fu : Nat → Int64} {gi : Nat → Nat → Int32} {ra : Nat → Nat} {pr : Nat → RowP} {ci : Nat → Option Nat} {rev sea : Int32} {th : Int32} {mn dp : Nat} {am : Nat → Nat → Int32} {al : Nat → Nat → Int64} {fo : Nat → Int64} (G : LG p s m c b L xs E) (hi : i + 5 ≤ L) (R0 : Rl kn nn fs fu (gi 0) (gi 1) pr ci rev (gi 5) am al) (hP : va_P E.1 vwCl (CW E ax kn nn ln fs fu gi ra pr ci rev sea ++ (MW E mo ad th kn nn mn dp am al ++ [(o, aJ E 1 fo)])) H) (hD : va_D (lA s) (CW E ax kn nn ln fs fu gi ra pr ci rev sea ++ (MW E mo ad th kn nn mn dp am al ++ [(o, aJ E 1 fo)]))) (hS : va_S (lA s) s.heap H locs) (hl : lv_has ls 7 [(0, .ref b), (1, .ref (ax 0)), (2, .ref mo), (3, .ref o), (4, .int (nI i))]) (hc : cells + 13 ≤ 601024) (hs : slots + 96 ≤ 7293034) (kk : lKK p l e s m below meth c Q b E ax mo ad o i cells slots) : W p l e room_1 s m #[Value.ref b] below meth c H locs cells slots Q (F0 m 449 ls []) := by
  have G0 := G
  obtain ⟨hx, hb, hml, hown, hts, -, hev, hz⟩ := G0
  have htl : ∀ w ∈ wsL_law, w.before #[Value.ref b] s = true := fun w hw => hts w (wsL_law_all w hw)
  have hA : ∀ q : Nat, s.heap.size ≤ q → lA s q := fun q hq => hq
  have hN : va_P E.1 vwCl ([] : va_W) s.heap := va_P.of (fun q hq => by cases hq)
  have hN2 : ∀ q ∈ ([] : va_W), ¬ lA s q.1 := fun q hq => by cases hq
  refine lv_aload_n hx hb dL_law_449 rfl (lv_at hl 1 rfl) ?_
  refine la_i G hS hl (lv_at hl 4 rfl) (k := 1) rfl (by omega) dL_law_450 dL_law_451 dL_law_453 dL_law_454 dL_law_455 ?_
  refine la_i G hS hl (lv_at hl 4 rfl) (k := 2) rfl (by omega) dL_law_456 dL_law_457 dL_law_459 dL_law_460 dL_law_461 ?_
  refine la_i G hS hl (lv_at hl 4 rfl) (k := 3) rfl (by omega) dL_law_462 dL_law_463 dL_law_465 dL_law_466 dL_law_467 ?_
  refine xci (va_runV (As := [.int (xs (i + 1)), .int (xs (i + 2)), .int (xs (i + 3))]) (rest := []) ⟨hx, hb, hml, hown, htl⟩ (cw_tells l E ax kn nn ln fs fu gi ra pr ci rev sea (xs (i + 1)) (xs (i + 2)) (xs (i + 3)) R0.1.2 (fun i hi => (R0.2.2.2.1 i hi).1.1) H.size) (cwV 3 htl gL_law_X7_tells rfl rfl rfl (by decide +kernel) ⟨by decide, by decide⟩) ⟨CP.blind, va_recv hev.1 hP (ci := 8) (q0 := 0) rfl rfl, xpre hev hz hA hP hD hS hN hN2 [] rfl⟩ rfl rfl hl.1 rfl (lv_room (Nat.le_of_ble_eq_true rfl)) dL_law_468 ⟨(by show cells + 0 ≤ 601024; omega), (by show slots + 0 ≤ 7293034; omega)⟩) hP hD hS hA (fun r w H locs hp hP hD hS => ?_)
  have hP := hP.perm pca
  have hD := hD.perm pca
  refine lv_aload_n hx hb dL_law_471 rfl (lv_at hl 2 rfl) ?_
  refine la_i G hS hl (lv_at hl 4 rfl) (k := 1) rfl (by omega) dL_law_472 dL_law_473 dL_law_475 dL_law_476 dL_law_477 ?_
  refine la_i G hS hl (lv_at hl 4 rfl) (k := 2) rfl (by omega) dL_law_478 dL_law_479 dL_law_481 dL_law_482 dL_law_483 ?_
  refine la_i G hS hl (lv_at hl 4 rfl) (k := 3) rfl (by omega) dL_law_484 dL_law_485 dL_law_487 dL_law_488 dL_law_489 ?_
  refine xci (va_runV (As := [.int (xs (i + 1)), .int (xs (i + 2)), .int (xs (i + 3))]) (rest := [.int r]) ⟨hx, hb, hml, hown, htl⟩ (mw_tells l E mo ad th kn nn mn dp am al pr ci (xs (i + 1)) (xs (i + 2)) (xs (i + 3)) (Rl.mok R0) R0.1.2 (tl_c R0) H.size) (cwV 3 htl gL_law_X8_tells rfl rfl rfl (by decide +kernel) ⟨by decide, by decide⟩) ⟨CP.blind, va_recv hev.1 hP (ci := 9) (q0 := 0) rfl rfl, xpre hev hz hA hP hD hS hN hN2 [] rfl⟩ rfl rfl hl.1 rfl (lv_room (Nat.le_of_ble_eq_true rfl)) dL_law_490 ⟨(by show cells + 0 + 0 ≤ 601024; omega), (by show slots + 0 + 0 ≤ 7293034; omega)⟩) hP hD hS hA (fun r2 w2 H locs hm hP hD hS => ?_)
  obtain ⟨rfl, hLI⟩ := bd_tells R0 hp hm
  have hP := hP.perm pca
  have hD := hD.perm pca
  refine lv_icmp_eq (tgt := 1087) hx hb dL_law_493 (by decide) (fun _ => kk H locs _ _ w w2 fo ls hLI hP hD hS hl (by omega) (by omega)) (fun hne => absurd rfl hne)
