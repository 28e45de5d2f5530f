section XF
variable {p : Program} {l : Launch} {e : Env} {R : Room} {s : State} {m : MethodId} {args : Array Value} {below : List Frame} {meth : Method} {c : Code} {H : Heap} {locs : List Loc} {cells slots : Nat} {Q : State → Prop}
variable {ls : Array Slot} {rest : List Value} {A : Nat → Prop} {H0 : Heap} {E : xE} {w : va_W} {q : Nat} {f : Nat → Int32}
theorem xfill {n k : Nat} {x : Int32} {pc : Nat} {cc : ByteArray} (hx : p.tables.exec = Jvm.exec) (hb : c.code = cc) (hev : xEv E s) (hP : va_P E.1 vwCl (w ++ [(q, aI E n f)]) H) (hD : va_D A (w ++ [(q, aI E n f)])) (hS : va_S A H0 H locs) (hk : k < n) (hn : n < 2 ^ 31) (hdg : decode cc pc = .ok (.iastore, 1))
    (kk : ∀ (H1 : Heap) (locs1 : List Loc), va_P E.1 vwCl (w ++ [(q, aI E n (upd f k x))]) H1 → va_D A (w ++ [(q, aI E n (upd f k x))]) → va_S A H0 H1 locs1 → W p l e R s m args below meth c H1 locs1 cells slots Q (F0 m (pc + 1) ls rest)) : W p l e R s m args below meth c H locs cells slots Q (F0 m pc ls (.int x :: .int (nI k) :: .ref q :: rest)) := by
  have es : ∀ y : Nat × va_E, (w ++ [(q, aI E n f)]).set w.length y = w ++ [y] := fun y => by simp
  have ha : (w ++ [(q, aI E n f)])[w.length]? = some (q, .inl (E.2 1, n, .inl f)) := by simp
  exact xiast (D := E.1) (cl := vwCl) (tys := xT E) (ws := w ++ [(q, aI E n f)]) (a := q) (cA := E.2 1) (f := f) (x := x) hx hb hev.1 hP hD hS w.length 1 ha rfl hk hn hdg (fun H1 locs1 h1 h2 h3 => kk H1 locs1 (by rw [es] at h1; exact h1) (by rw [es] at h2; exact h2) h3)
end XF

section XF
variable {p : Program} {l : Launch} {e : Env} {R : Room} {s : State} {m : MethodId} {args : Array Value} {below : List Frame} {meth : Method} {c : Code} {H : Heap} {locs : List Loc} {cells slots : Nat} {Q : State → Prop}
variable {ls : Array Slot} {rest : List Value} {A : Nat → Prop} {H0 : Heap} {E : xE} {w : va_W} {q : Nat} {f : Nat → Int32}
set_option maxHeartbeats 4000000 in
theorem xsegF (hx : p.tables.exec = Jvm.exec) (hb : c.code = cX8_init) (hown : s.vm.findClass "SignQuorumModel" = some m.cls) (hts : ∀ w ∈ wsX8_init, w.before args s = true) (hev : xEv E s) (hP : va_P E.1 vwCl (w ++ [(q, aI E 8 f)]) H) (hD : va_D A (w ++ [(q, aI E 8 f)])) (hS : va_S A H0 H locs) (hf : ∀ k, k < 0 → f k = sFS k)
    (kk : ∀ (H1 : Heap) (locs1 : List Loc) (f1 : Nat → Int32), va_P E.1 vwCl (w ++ [(q, aI E 8 f1)]) H1 → va_D A (w ++ [(q, aI E 8 f1)]) → va_S A H0 H1 locs1 → (∀ k, k < 8 → f1 k = sFS k) → W p l e R s m args below meth c H1 locs1 cells slots Q (F0 m 287 ls (.ref q :: rest))) : W p l e R s m args below meth c H locs cells slots Q (F0 m 245 ls (.ref q :: rest)) := by
  refine lv_dup hx hb dX8_init_245 rfl ?_
  refine lv_iconst (v := 0) hx hb dX8_init_246 (by decide) ?_
  refine lv_ldc hx hb hown (hts (.constant RX8 96 (1779033703)) (by decide +kernel)) dX8_init_247 ?_
  refine xfill (k := 0) (n := 8) hx hb hev hP hD hS (by decide) (by decide) dX8_init_249 ?_
  clear hP hD hS
  intro H locs hP hD hS
  obtain ⟨g0, eg0⟩ : ∃ y9_ : Nat → Int32, y9_ = upd f 0 (1779033703) := ⟨_, rfl⟩
  rw [← eg0] at hP hD
  have z0 : ∀ k, k < 1 → g0 k = sFS k := lt_s (fun k hk => by rw [eg0, upd_ne (by omega)]; exact hf k hk) (by rw [eg0, upd_self]; rfl)
  refine lv_dup hx hb dX8_init_250 rfl ?_
  refine lv_iconst (v := 1) hx hb dX8_init_251 (by decide) ?_
  refine lv_ldc hx hb hown (hts (.constant RX8 97 (-1150833019)) (by decide +kernel)) dX8_init_252 ?_
  refine xfill (k := 1) (n := 8) hx hb hev hP hD hS (by decide) (by decide) dX8_init_254 ?_
  clear hP hD hS
  intro H locs hP hD hS
  obtain ⟨g1, eg1⟩ : ∃ y9_ : Nat → Int32, y9_ = upd g0 1 (-1150833019) := ⟨_, rfl⟩
  rw [← eg1] at hP hD
  have z1 : ∀ k, k < 2 → g1 k = sFS k := lt_s (fun k hk => by rw [eg1, upd_ne (by omega)]; exact z0 k hk) (by rw [eg1, upd_self]; rfl)
  refine lv_dup hx hb dX8_init_255 rfl ?_
  refine lv_iconst (v := 2) hx hb dX8_init_256 (by decide) ?_
  refine lv_ldc hx hb hown (hts (.constant RX8 98 (1013904242)) (by decide +kernel)) dX8_init_257 ?_
  refine xfill (k := 2) (n := 8) hx hb hev hP hD hS (by decide) (by decide) dX8_init_259 ?_
  clear hP hD hS
  intro H locs hP hD hS
  obtain ⟨g2, eg2⟩ : ∃ y9_ : Nat → Int32, y9_ = upd g1 2 (1013904242) := ⟨_, rfl⟩
  rw [← eg2] at hP hD
  have z2 : ∀ k, k < 3 → g2 k = sFS k := lt_s (fun k hk => by rw [eg2, upd_ne (by omega)]; exact z1 k hk) (by rw [eg2, upd_self]; rfl)
  refine lv_dup hx hb dX8_init_260 rfl ?_
  refine lv_iconst (v := 3) hx hb dX8_init_261 (by decide) ?_
  refine lv_ldc hx hb hown (hts (.constant RX8 99 (-1521486534)) (by decide +kernel)) dX8_init_262 ?_
  refine xfill (k := 3) (n := 8) hx hb hev hP hD hS (by decide) (by decide) dX8_init_264 ?_
  clear hP hD hS
  intro H locs hP hD hS
  obtain ⟨g3, eg3⟩ : ∃ y9_ : Nat → Int32, y9_ = upd g2 3 (-1521486534) := ⟨_, rfl⟩
  rw [← eg3] at hP hD
  have z3 : ∀ k, k < 4 → g3 k = sFS k := lt_s (fun k hk => by rw [eg3, upd_ne (by omega)]; exact z2 k hk) (by rw [eg3, upd_self]; rfl)
  refine lv_dup hx hb dX8_init_265 rfl ?_
  refine lv_iconst (v := 4) hx hb dX8_init_266 (by decide) ?_
  refine lv_ldc hx hb hown (hts (.constant RX8 100 (1359893119)) (by decide +kernel)) dX8_init_267 ?_
  refine xfill (k := 4) (n := 8) hx hb hev hP hD hS (by decide) (by decide) dX8_init_269 ?_
  clear hP hD hS
  intro H locs hP hD hS
  obtain ⟨g4, eg4⟩ : ∃ y9_ : Nat → Int32, y9_ = upd g3 4 (1359893119) := ⟨_, rfl⟩
  rw [← eg4] at hP hD
  have z4 : ∀ k, k < 5 → g4 k = sFS k := lt_s (fun k hk => by rw [eg4, upd_ne (by omega)]; exact z3 k hk) (by rw [eg4, upd_self]; rfl)
  refine lv_dup hx hb dX8_init_270 rfl ?_
  refine lv_iconst (v := 5) hx hb dX8_init_271 (by decide) ?_
  refine lv_ldc hx hb hown (hts (.constant RX8 101 (-1694144372)) (by decide +kernel)) dX8_init_272 ?_
  refine xfill (k := 5) (n := 8) hx hb hev hP hD hS (by decide) (by decide) dX8_init_274 ?_
  clear hP hD hS
  intro H locs hP hD hS
  obtain ⟨g5, eg5⟩ : ∃ y9_ : Nat → Int32, y9_ = upd g4 5 (-1694144372) := ⟨_, rfl⟩
  rw [← eg5] at hP hD
  have z5 : ∀ k, k < 6 → g5 k = sFS k := lt_s (fun k hk => by rw [eg5, upd_ne (by omega)]; exact z4 k hk) (by rw [eg5, upd_self]; rfl)
  refine lv_dup hx hb dX8_init_275 rfl ?_
  refine lv_bipush (v := 6) hx hb dX8_init_276 (by decide) ?_
  refine lv_ldc hx hb hown (hts (.constant RX8 102 (528734635)) (by decide +kernel)) dX8_init_278 ?_
  refine xfill (k := 6) (n := 8) hx hb hev hP hD hS (by decide) (by decide) dX8_init_280 ?_
  clear hP hD hS
  intro H locs hP hD hS
  obtain ⟨g6, eg6⟩ : ∃ y9_ : Nat → Int32, y9_ = upd g5 6 (528734635) := ⟨_, rfl⟩
  rw [← eg6] at hP hD
  have z6 : ∀ k, k < 7 → g6 k = sFS k := lt_s (fun k hk => by rw [eg6, upd_ne (by omega)]; exact z5 k hk) (by rw [eg6, upd_self]; rfl)
  refine lv_dup hx hb dX8_init_281 rfl ?_
  refine lv_bipush (v := 7) hx hb dX8_init_282 (by decide) ?_
  refine lv_ldc hx hb hown (hts (.constant RX8 103 (1541459225)) (by decide +kernel)) dX8_init_284 ?_
  refine xfill (k := 7) (n := 8) hx hb hev hP hD hS (by decide) (by decide) dX8_init_286 ?_
  clear hP hD hS
  intro H locs hP hD hS
  obtain ⟨g7, eg7⟩ : ∃ y9_ : Nat → Int32, y9_ = upd g6 7 (1541459225) := ⟨_, rfl⟩
  rw [← eg7] at hP hD
  have z7 : ∀ k, k < 8 → g7 k = sFS k := lt_s (fun k hk => by rw [eg7, upd_ne (by omega)]; exact z6 k hk) (by rw [eg7, upd_self]; rfl)
  exact kk _ _ _ hP hD hS z7
end XF

section XF
variable {p : Program} {l : Launch} {e : Env} {R : Room} {s : State} {m : MethodId} {args : Array Value} {below : List Frame} {meth : Method} {c : Code} {H : Heap} {locs : List Loc} {cells slots : Nat} {Q : State → Prop}
variable {ls : Array Slot} {rest : List Value} {A : Nat → Prop} {H0 : Heap} {E : xE} {w : va_W} {q : Nat} {f : Nat → Int32}
set_option maxHeartbeats 4000000 in
theorem xsegR0 (hx : p.tables.exec = Jvm.exec) (hb : c.code = cX8_init) (hown : s.vm.findClass "SignQuorumModel" = some m.cls) (hts : ∀ w ∈ wsX8_init, w.before args s = true) (hev : xEv E s) (hP : va_P E.1 vwCl (w ++ [(q, aI E 64 f)]) H) (hD : va_D A (w ++ [(q, aI E 64 f)])) (hS : va_S A H0 H locs) (hf : ∀ k, k < 0 → f k = sRC k)
    (kk : ∀ (H1 : Heap) (locs1 : List Loc) (f1 : Nat → Int32), va_P E.1 vwCl (w ++ [(q, aI E 64 f1)]) H1 → va_D A (w ++ [(q, aI E 64 f1)]) → va_S A H0 H1 locs1 → (∀ k, k < 8 → f1 k = sRC k) → W p l e R s m args below meth c H1 locs1 cells slots Q (F0 m 337 ls (.ref q :: rest))) : W p l e R s m args below meth c H locs cells slots Q (F0 m 295 ls (.ref q :: rest)) := by
  refine lv_dup hx hb dX8_init_295 rfl ?_
  refine lv_iconst (v := 0) hx hb dX8_init_296 (by decide) ?_
  refine lv_ldc hx hb hown (hts (.constant RX8 107 (1116352408)) (by decide +kernel)) dX8_init_297 ?_
  refine xfill (k := 0) (n := 64) hx hb hev hP hD hS (by decide) (by decide) dX8_init_299 ?_
  clear hP hD hS
  intro H locs hP hD hS
  obtain ⟨g0, eg0⟩ : ∃ y9_ : Nat → Int32, y9_ = upd f 0 (1116352408) := ⟨_, rfl⟩
  rw [← eg0] at hP hD
  have z0 : ∀ k, k < 1 → g0 k = sRC k := lt_s (fun k hk => by rw [eg0, upd_ne (by omega)]; exact hf k hk) (by rw [eg0, upd_self]; rfl)
  refine lv_dup hx hb dX8_init_300 rfl ?_
  refine lv_iconst (v := 1) hx hb dX8_init_301 (by decide) ?_
  refine lv_ldc hx hb hown (hts (.constant RX8 108 (1899447441)) (by decide +kernel)) dX8_init_302 ?_
  refine xfill (k := 1) (n := 64) hx hb hev hP hD hS (by decide) (by decide) dX8_init_304 ?_
  clear hP hD hS
  intro H locs hP hD hS
  obtain ⟨g1, eg1⟩ : ∃ y9_ : Nat → Int32, y9_ = upd g0 1 (1899447441) := ⟨_, rfl⟩
  rw [← eg1] at hP hD
  have z1 : ∀ k, k < 2 → g1 k = sRC k := lt_s (fun k hk => by rw [eg1, upd_ne (by omega)]; exact z0 k hk) (by rw [eg1, upd_self]; rfl)
  refine lv_dup hx hb dX8_init_305 rfl ?_
  refine lv_iconst (v := 2) hx hb dX8_init_306 (by decide) ?_
  refine lv_ldc hx hb hown (hts (.constant RX8 109 (-1245643825)) (by decide +kernel)) dX8_init_307 ?_
  refine xfill (k := 2) (n := 64) hx hb hev hP hD hS (by decide) (by decide) dX8_init_309 ?_
  clear hP hD hS
  intro H locs hP hD hS
  obtain ⟨g2, eg2⟩ : ∃ y9_ : Nat → Int32, y9_ = upd g1 2 (-1245643825) := ⟨_, rfl⟩
  rw [← eg2] at hP hD
  have z2 : ∀ k, k < 3 → g2 k = sRC k := lt_s (fun k hk => by rw [eg2, upd_ne (by omega)]; exact z1 k hk) (by rw [eg2, upd_self]; rfl)
  refine lv_dup hx hb dX8_init_310 rfl ?_
  refine lv_iconst (v := 3) hx hb dX8_init_311 (by decide) ?_
  refine lv_ldc hx hb hown (hts (.constant RX8 110 (-373957723)) (by decide +kernel)) dX8_init_312 ?_
  refine xfill (k := 3) (n := 64) hx hb hev hP hD hS (by decide) (by decide) dX8_init_314 ?_
  clear hP hD hS
  intro H locs hP hD hS
  obtain ⟨g3, eg3⟩ : ∃ y9_ : Nat → Int32, y9_ = upd g2 3 (-373957723) := ⟨_, rfl⟩
  rw [← eg3] at hP hD
  have z3 : ∀ k, k < 4 → g3 k = sRC k := lt_s (fun k hk => by rw [eg3, upd_ne (by omega)]; exact z2 k hk) (by rw [eg3, upd_self]; rfl)
  refine lv_dup hx hb dX8_init_315 rfl ?_
  refine lv_iconst (v := 4) hx hb dX8_init_316 (by decide) ?_
  refine lv_ldc hx hb hown (hts (.constant RX8 111 (961987163)) (by decide +kernel)) dX8_init_317 ?_
  refine xfill (k := 4) (n := 64) hx hb hev hP hD hS (by decide) (by decide) dX8_init_319 ?_
  clear hP hD hS
  intro H locs hP hD hS
  obtain ⟨g4, eg4⟩ : ∃ y9_ : Nat → Int32, y9_ = upd g3 4 (961987163) := ⟨_, rfl⟩
  rw [← eg4] at hP hD
  have z4 : ∀ k, k < 5 → g4 k = sRC k := lt_s (fun k hk => by rw [eg4, upd_ne (by omega)]; exact z3 k hk) (by rw [eg4, upd_self]; rfl)
  refine lv_dup hx hb dX8_init_320 rfl ?_
  refine lv_iconst (v := 5) hx hb dX8_init_321 (by decide) ?_
  refine lv_ldc hx hb hown (hts (.constant RX8 112 (1508970993)) (by decide +kernel)) dX8_init_322 ?_
  refine xfill (k := 5) (n := 64) hx hb hev hP hD hS (by decide) (by decide) dX8_init_324 ?_
  clear hP hD hS
  intro H locs hP hD hS
  obtain ⟨g5, eg5⟩ : ∃ y9_ : Nat → Int32, y9_ = upd g4 5 (1508970993) := ⟨_, rfl⟩
  rw [← eg5] at hP hD
  have z5 : ∀ k, k < 6 → g5 k = sRC k := lt_s (fun k hk => by rw [eg5, upd_ne (by omega)]; exact z4 k hk) (by rw [eg5, upd_self]; rfl)
  refine lv_dup hx hb dX8_init_325 rfl ?_
  refine lv_bipush (v := 6) hx hb dX8_init_326 (by decide) ?_
  refine lv_ldc hx hb hown (hts (.constant RX8 113 (-1841331548)) (by decide +kernel)) dX8_init_328 ?_
  refine xfill (k := 6) (n := 64) hx hb hev hP hD hS (by decide) (by decide) dX8_init_330 ?_
  clear hP hD hS
  intro H locs hP hD hS
  obtain ⟨g6, eg6⟩ : ∃ y9_ : Nat → Int32, y9_ = upd g5 6 (-1841331548) := ⟨_, rfl⟩
  rw [← eg6] at hP hD
  have z6 : ∀ k, k < 7 → g6 k = sRC k := lt_s (fun k hk => by rw [eg6, upd_ne (by omega)]; exact z5 k hk) (by rw [eg6, upd_self]; rfl)
  refine lv_dup hx hb dX8_init_331 rfl ?_
  refine lv_bipush (v := 7) hx hb dX8_init_332 (by decide) ?_
  refine lv_ldc hx hb hown (hts (.constant RX8 114 (-1424204075)) (by decide +kernel)) dX8_init_334 ?_
  refine xfill (k := 7) (n := 64) hx hb hev hP hD hS (by decide) (by decide) dX8_init_336 ?_
  clear hP hD hS
  intro H locs hP hD hS
  obtain ⟨g7, eg7⟩ : ∃ y9_ : Nat → Int32, y9_ = upd g6 7 (-1424204075) := ⟨_, rfl⟩
  rw [← eg7] at hP hD
  have z7 : ∀ k, k < 8 → g7 k = sRC k := lt_s (fun k hk => by rw [eg7, upd_ne (by omega)]; exact z6 k hk) (by rw [eg7, upd_self]; rfl)
  exact kk _ _ _ hP hD hS z7
end XF

section XF
variable {p : Program} {l : Launch} {e : Env} {R : Room} {s : State} {m : MethodId} {args : Array Value} {below : List Frame} {meth : Method} {c : Code} {H : Heap} {locs : List Loc} {cells slots : Nat} {Q : State → Prop}
variable {ls : Array Slot} {rest : List Value} {A : Nat → Prop} {H0 : Heap} {E : xE} {w : va_W} {q : Nat} {f : Nat → Int32}
set_option maxHeartbeats 4000000 in
theorem xsegR1 (hx : p.tables.exec = Jvm.exec) (hb : c.code = cX8_init) (hown : s.vm.findClass "SignQuorumModel" = some m.cls) (hts : ∀ w ∈ wsX8_init, w.before args s = true) (hev : xEv E s) (hP : va_P E.1 vwCl (w ++ [(q, aI E 64 f)]) H) (hD : va_D A (w ++ [(q, aI E 64 f)])) (hS : va_S A H0 H locs) (hf : ∀ k, k < 8 → f k = sRC k)
    (kk : ∀ (H1 : Heap) (locs1 : List Loc) (f1 : Nat → Int32), va_P E.1 vwCl (w ++ [(q, aI E 64 f1)]) H1 → va_D A (w ++ [(q, aI E 64 f1)]) → va_S A H0 H1 locs1 → (∀ k, k < 16 → f1 k = sRC k) → W p l e R s m args below meth c H1 locs1 cells slots Q (F0 m 385 ls (.ref q :: rest))) : W p l e R s m args below meth c H locs cells slots Q (F0 m 337 ls (.ref q :: rest)) := by
  refine lv_dup hx hb dX8_init_337 rfl ?_
  refine lv_bipush (v := 8) hx hb dX8_init_338 (by decide) ?_
  refine lv_ldc hx hb hown (hts (.constant RX8 115 (-670586216)) (by decide +kernel)) dX8_init_340 ?_
  refine xfill (k := 8) (n := 64) hx hb hev hP hD hS (by decide) (by decide) dX8_init_342 ?_
  clear hP hD hS
  intro H locs hP hD hS
  obtain ⟨g8, eg8⟩ : ∃ y9_ : Nat → Int32, y9_ = upd f 8 (-670586216) := ⟨_, rfl⟩
  rw [← eg8] at hP hD
  have z8 : ∀ k, k < 9 → g8 k = sRC k := lt_s (fun k hk => by rw [eg8, upd_ne (by omega)]; exact hf k hk) (by rw [eg8, upd_self]; rfl)
  refine lv_dup hx hb dX8_init_343 rfl ?_
  refine lv_bipush (v := 9) hx hb dX8_init_344 (by decide) ?_
  refine lv_ldc hx hb hown (hts (.constant RX8 116 (310598401)) (by decide +kernel)) dX8_init_346 ?_
  refine xfill (k := 9) (n := 64) hx hb hev hP hD hS (by decide) (by decide) dX8_init_348 ?_
  clear hP hD hS
  intro H locs hP hD hS
  obtain ⟨g9, eg9⟩ : ∃ y9_ : Nat → Int32, y9_ = upd g8 9 (310598401) := ⟨_, rfl⟩
  rw [← eg9] at hP hD
  have z9 : ∀ k, k < 10 → g9 k = sRC k := lt_s (fun k hk => by rw [eg9, upd_ne (by omega)]; exact z8 k hk) (by rw [eg9, upd_self]; rfl)
  refine lv_dup hx hb dX8_init_349 rfl ?_
  refine lv_bipush (v := 10) hx hb dX8_init_350 (by decide) ?_
  refine lv_ldc hx hb hown (hts (.constant RX8 117 (607225278)) (by decide +kernel)) dX8_init_352 ?_
  refine xfill (k := 10) (n := 64) hx hb hev hP hD hS (by decide) (by decide) dX8_init_354 ?_
  clear hP hD hS
  intro H locs hP hD hS
  obtain ⟨g10, eg10⟩ : ∃ y9_ : Nat → Int32, y9_ = upd g9 10 (607225278) := ⟨_, rfl⟩
  rw [← eg10] at hP hD
  have z10 : ∀ k, k < 11 → g10 k = sRC k := lt_s (fun k hk => by rw [eg10, upd_ne (by omega)]; exact z9 k hk) (by rw [eg10, upd_self]; rfl)
  refine lv_dup hx hb dX8_init_355 rfl ?_
  refine lv_bipush (v := 11) hx hb dX8_init_356 (by decide) ?_
  refine lv_ldc hx hb hown (hts (.constant RX8 118 (1426881987)) (by decide +kernel)) dX8_init_358 ?_
  refine xfill (k := 11) (n := 64) hx hb hev hP hD hS (by decide) (by decide) dX8_init_360 ?_
  clear hP hD hS
  intro H locs hP hD hS
  obtain ⟨g11, eg11⟩ : ∃ y9_ : Nat → Int32, y9_ = upd g10 11 (1426881987) := ⟨_, rfl⟩
  rw [← eg11] at hP hD
  have z11 : ∀ k, k < 12 → g11 k = sRC k := lt_s (fun k hk => by rw [eg11, upd_ne (by omega)]; exact z10 k hk) (by rw [eg11, upd_self]; rfl)
  refine lv_dup hx hb dX8_init_361 rfl ?_
  refine lv_bipush (v := 12) hx hb dX8_init_362 (by decide) ?_
  refine lv_ldc hx hb hown (hts (.constant RX8 119 (1925078388)) (by decide +kernel)) dX8_init_364 ?_
  refine xfill (k := 12) (n := 64) hx hb hev hP hD hS (by decide) (by decide) dX8_init_366 ?_
  clear hP hD hS
  intro H locs hP hD hS
  obtain ⟨g12, eg12⟩ : ∃ y9_ : Nat → Int32, y9_ = upd g11 12 (1925078388) := ⟨_, rfl⟩
  rw [← eg12] at hP hD
  have z12 : ∀ k, k < 13 → g12 k = sRC k := lt_s (fun k hk => by rw [eg12, upd_ne (by omega)]; exact z11 k hk) (by rw [eg12, upd_self]; rfl)
  refine lv_dup hx hb dX8_init_367 rfl ?_
  refine lv_bipush (v := 13) hx hb dX8_init_368 (by decide) ?_
  refine lv_ldc hx hb hown (hts (.constant RX8 120 (-2132889090)) (by decide +kernel)) dX8_init_370 ?_
  refine xfill (k := 13) (n := 64) hx hb hev hP hD hS (by decide) (by decide) dX8_init_372 ?_
  clear hP hD hS
  intro H locs hP hD hS
  obtain ⟨g13, eg13⟩ : ∃ y9_ : Nat → Int32, y9_ = upd g12 13 (-2132889090) := ⟨_, rfl⟩
  rw [← eg13] at hP hD
  have z13 : ∀ k, k < 14 → g13 k = sRC k := lt_s (fun k hk => by rw [eg13, upd_ne (by omega)]; exact z12 k hk) (by rw [eg13, upd_self]; rfl)
  refine lv_dup hx hb dX8_init_373 rfl ?_
  refine lv_bipush (v := 14) hx hb dX8_init_374 (by decide) ?_
  refine lv_ldc hx hb hown (hts (.constant RX8 121 (-1680079193)) (by decide +kernel)) dX8_init_376 ?_
  refine xfill (k := 14) (n := 64) hx hb hev hP hD hS (by decide) (by decide) dX8_init_378 ?_
  clear hP hD hS
  intro H locs hP hD hS
  obtain ⟨g14, eg14⟩ : ∃ y9_ : Nat → Int32, y9_ = upd g13 14 (-1680079193) := ⟨_, rfl⟩
  rw [← eg14] at hP hD
  have z14 : ∀ k, k < 15 → g14 k = sRC k := lt_s (fun k hk => by rw [eg14, upd_ne (by omega)]; exact z13 k hk) (by rw [eg14, upd_self]; rfl)
  refine lv_dup hx hb dX8_init_379 rfl ?_
  refine lv_bipush (v := 15) hx hb dX8_init_380 (by decide) ?_
  refine lv_ldc hx hb hown (hts (.constant RX8 122 (-1046744716)) (by decide +kernel)) dX8_init_382 ?_
  refine xfill (k := 15) (n := 64) hx hb hev hP hD hS (by decide) (by decide) dX8_init_384 ?_
  clear hP hD hS
  intro H locs hP hD hS
  obtain ⟨g15, eg15⟩ : ∃ y9_ : Nat → Int32, y9_ = upd g14 15 (-1046744716) := ⟨_, rfl⟩
  rw [← eg15] at hP hD
  have z15 : ∀ k, k < 16 → g15 k = sRC k := lt_s (fun k hk => by rw [eg15, upd_ne (by omega)]; exact z14 k hk) (by rw [eg15, upd_self]; rfl)
  exact kk _ _ _ hP hD hS z15
end XF

section XF
variable {p : Program} {l : Launch} {e : Env} {R : Room} {s : State} {m : MethodId} {args : Array Value} {below : List Frame} {meth : Method} {c : Code} {H : Heap} {locs : List Loc} {cells slots : Nat} {Q : State → Prop}
variable {ls : Array Slot} {rest : List Value} {A : Nat → Prop} {H0 : Heap} {E : xE} {w : va_W} {q : Nat} {f : Nat → Int32}
set_option maxHeartbeats 4000000 in
theorem xsegR2 (hx : p.tables.exec = Jvm.exec) (hb : c.code = cX8_init) (hown : s.vm.findClass "SignQuorumModel" = some m.cls) (hts : ∀ w ∈ wsX8_init, w.before args s = true) (hev : xEv E s) (hP : va_P E.1 vwCl (w ++ [(q, aI E 64 f)]) H) (hD : va_D A (w ++ [(q, aI E 64 f)])) (hS : va_S A H0 H locs) (hf : ∀ k, k < 16 → f k = sRC k)
    (kk : ∀ (H1 : Heap) (locs1 : List Loc) (f1 : Nat → Int32), va_P E.1 vwCl (w ++ [(q, aI E 64 f1)]) H1 → va_D A (w ++ [(q, aI E 64 f1)]) → va_S A H0 H1 locs1 → (∀ k, k < 24 → f1 k = sRC k) → W p l e R s m args below meth c H1 locs1 cells slots Q (F0 m 433 ls (.ref q :: rest))) : W p l e R s m args below meth c H locs cells slots Q (F0 m 385 ls (.ref q :: rest)) := by
  refine lv_dup hx hb dX8_init_385 rfl ?_
  refine lv_bipush (v := 16) hx hb dX8_init_386 (by decide) ?_
  refine lv_ldc hx hb hown (hts (.constant RX8 123 (-459576895)) (by decide +kernel)) dX8_init_388 ?_
  refine xfill (k := 16) (n := 64) hx hb hev hP hD hS (by decide) (by decide) dX8_init_390 ?_
  clear hP hD hS
  intro H locs hP hD hS
  obtain ⟨g16, eg16⟩ : ∃ y9_ : Nat → Int32, y9_ = upd f 16 (-459576895) := ⟨_, rfl⟩
  rw [← eg16] at hP hD
  have z16 : ∀ k, k < 17 → g16 k = sRC k := lt_s (fun k hk => by rw [eg16, upd_ne (by omega)]; exact hf k hk) (by rw [eg16, upd_self]; rfl)
  refine lv_dup hx hb dX8_init_391 rfl ?_
  refine lv_bipush (v := 17) hx hb dX8_init_392 (by decide) ?_
  refine lv_ldc hx hb hown (hts (.constant RX8 124 (-272742522)) (by decide +kernel)) dX8_init_394 ?_
  refine xfill (k := 17) (n := 64) hx hb hev hP hD hS (by decide) (by decide) dX8_init_396 ?_
  clear hP hD hS
  intro H locs hP hD hS
  obtain ⟨g17, eg17⟩ : ∃ y9_ : Nat → Int32, y9_ = upd g16 17 (-272742522) := ⟨_, rfl⟩
  rw [← eg17] at hP hD
  have z17 : ∀ k, k < 18 → g17 k = sRC k := lt_s (fun k hk => by rw [eg17, upd_ne (by omega)]; exact z16 k hk) (by rw [eg17, upd_self]; rfl)
  refine lv_dup hx hb dX8_init_397 rfl ?_
  refine lv_bipush (v := 18) hx hb dX8_init_398 (by decide) ?_
  refine lv_ldc hx hb hown (hts (.constant RX8 125 (264347078)) (by decide +kernel)) dX8_init_400 ?_
  refine xfill (k := 18) (n := 64) hx hb hev hP hD hS (by decide) (by decide) dX8_init_402 ?_
  clear hP hD hS
  intro H locs hP hD hS
  obtain ⟨g18, eg18⟩ : ∃ y9_ : Nat → Int32, y9_ = upd g17 18 (264347078) := ⟨_, rfl⟩
  rw [← eg18] at hP hD
  have z18 : ∀ k, k < 19 → g18 k = sRC k := lt_s (fun k hk => by rw [eg18, upd_ne (by omega)]; exact z17 k hk) (by rw [eg18, upd_self]; rfl)
  refine lv_dup hx hb dX8_init_403 rfl ?_
  refine lv_bipush (v := 19) hx hb dX8_init_404 (by decide) ?_
  refine lv_ldc hx hb hown (hts (.constant RX8 126 (604807628)) (by decide +kernel)) dX8_init_406 ?_
  refine xfill (k := 19) (n := 64) hx hb hev hP hD hS (by decide) (by decide) dX8_init_408 ?_
  clear hP hD hS
  intro H locs hP hD hS
  obtain ⟨g19, eg19⟩ : ∃ y9_ : Nat → Int32, y9_ = upd g18 19 (604807628) := ⟨_, rfl⟩
  rw [← eg19] at hP hD
  have z19 : ∀ k, k < 20 → g19 k = sRC k := lt_s (fun k hk => by rw [eg19, upd_ne (by omega)]; exact z18 k hk) (by rw [eg19, upd_self]; rfl)
  refine lv_dup hx hb dX8_init_409 rfl ?_
  refine lv_bipush (v := 20) hx hb dX8_init_410 (by decide) ?_
  refine lv_ldc hx hb hown (hts (.constant RX8 127 (770255983)) (by decide +kernel)) dX8_init_412 ?_
  refine xfill (k := 20) (n := 64) hx hb hev hP hD hS (by decide) (by decide) dX8_init_414 ?_
  clear hP hD hS
  intro H locs hP hD hS
  obtain ⟨g20, eg20⟩ : ∃ y9_ : Nat → Int32, y9_ = upd g19 20 (770255983) := ⟨_, rfl⟩
  rw [← eg20] at hP hD
  have z20 : ∀ k, k < 21 → g20 k = sRC k := lt_s (fun k hk => by rw [eg20, upd_ne (by omega)]; exact z19 k hk) (by rw [eg20, upd_self]; rfl)
  refine lv_dup hx hb dX8_init_415 rfl ?_
  refine lv_bipush (v := 21) hx hb dX8_init_416 (by decide) ?_
  refine lv_ldc hx hb hown (hts (.constant RX8 128 (1249150122)) (by decide +kernel)) dX8_init_418 ?_
  refine xfill (k := 21) (n := 64) hx hb hev hP hD hS (by decide) (by decide) dX8_init_420 ?_
  clear hP hD hS
  intro H locs hP hD hS
  obtain ⟨g21, eg21⟩ : ∃ y9_ : Nat → Int32, y9_ = upd g20 21 (1249150122) := ⟨_, rfl⟩
  rw [← eg21] at hP hD
  have z21 : ∀ k, k < 22 → g21 k = sRC k := lt_s (fun k hk => by rw [eg21, upd_ne (by omega)]; exact z20 k hk) (by rw [eg21, upd_self]; rfl)
  refine lv_dup hx hb dX8_init_421 rfl ?_
  refine lv_bipush (v := 22) hx hb dX8_init_422 (by decide) ?_
  refine lv_ldc hx hb hown (hts (.constant RX8 129 (1555081692)) (by decide +kernel)) dX8_init_424 ?_
  refine xfill (k := 22) (n := 64) hx hb hev hP hD hS (by decide) (by decide) dX8_init_426 ?_
  clear hP hD hS
  intro H locs hP hD hS
  obtain ⟨g22, eg22⟩ : ∃ y9_ : Nat → Int32, y9_ = upd g21 22 (1555081692) := ⟨_, rfl⟩
  rw [← eg22] at hP hD
  have z22 : ∀ k, k < 23 → g22 k = sRC k := lt_s (fun k hk => by rw [eg22, upd_ne (by omega)]; exact z21 k hk) (by rw [eg22, upd_self]; rfl)
  refine lv_dup hx hb dX8_init_427 rfl ?_
  refine lv_bipush (v := 23) hx hb dX8_init_428 (by decide) ?_
  refine lv_ldc hx hb hown (hts (.constant RX8 130 (1996064986)) (by decide +kernel)) dX8_init_430 ?_
  refine xfill (k := 23) (n := 64) hx hb hev hP hD hS (by decide) (by decide) dX8_init_432 ?_
  clear hP hD hS
  intro H locs hP hD hS
  obtain ⟨g23, eg23⟩ : ∃ y9_ : Nat → Int32, y9_ = upd g22 23 (1996064986) := ⟨_, rfl⟩
  rw [← eg23] at hP hD
  have z23 : ∀ k, k < 24 → g23 k = sRC k := lt_s (fun k hk => by rw [eg23, upd_ne (by omega)]; exact z22 k hk) (by rw [eg23, upd_self]; rfl)
  exact kk _ _ _ hP hD hS z23
end XF

section XF
variable {p : Program} {l : Launch} {e : Env} {R : Room} {s : State} {m : MethodId} {args : Array Value} {below : List Frame} {meth : Method} {c : Code} {H : Heap} {locs : List Loc} {cells slots : Nat} {Q : State → Prop}
variable {ls : Array Slot} {rest : List Value} {A : Nat → Prop} {H0 : Heap} {E : xE} {w : va_W} {q : Nat} {f : Nat → Int32}
set_option maxHeartbeats 4000000 in
theorem xsegR3 (hx : p.tables.exec = Jvm.exec) (hb : c.code = cX8_init) (hown : s.vm.findClass "SignQuorumModel" = some m.cls) (hts : ∀ w ∈ wsX8_init, w.before args s = true) (hev : xEv E s) (hP : va_P E.1 vwCl (w ++ [(q, aI E 64 f)]) H) (hD : va_D A (w ++ [(q, aI E 64 f)])) (hS : va_S A H0 H locs) (hf : ∀ k, k < 24 → f k = sRC k)
    (kk : ∀ (H1 : Heap) (locs1 : List Loc) (f1 : Nat → Int32), va_P E.1 vwCl (w ++ [(q, aI E 64 f1)]) H1 → va_D A (w ++ [(q, aI E 64 f1)]) → va_S A H0 H1 locs1 → (∀ k, k < 32 → f1 k = sRC k) → W p l e R s m args below meth c H1 locs1 cells slots Q (F0 m 481 ls (.ref q :: rest))) : W p l e R s m args below meth c H locs cells slots Q (F0 m 433 ls (.ref q :: rest)) := by
  refine lv_dup hx hb dX8_init_433 rfl ?_
  refine lv_bipush (v := 24) hx hb dX8_init_434 (by decide) ?_
  refine lv_ldc hx hb hown (hts (.constant RX8 131 (-1740746414)) (by decide +kernel)) dX8_init_436 ?_
  refine xfill (k := 24) (n := 64) hx hb hev hP hD hS (by decide) (by decide) dX8_init_438 ?_
  clear hP hD hS
  intro H locs hP hD hS
  obtain ⟨g24, eg24⟩ : ∃ y9_ : Nat → Int32, y9_ = upd f 24 (-1740746414) := ⟨_, rfl⟩
  rw [← eg24] at hP hD
  have z24 : ∀ k, k < 25 → g24 k = sRC k := lt_s (fun k hk => by rw [eg24, upd_ne (by omega)]; exact hf k hk) (by rw [eg24, upd_self]; rfl)
  refine lv_dup hx hb dX8_init_439 rfl ?_
  refine lv_bipush (v := 25) hx hb dX8_init_440 (by decide) ?_
  refine lv_ldc hx hb hown (hts (.constant RX8 132 (-1473132947)) (by decide +kernel)) dX8_init_442 ?_
  refine xfill (k := 25) (n := 64) hx hb hev hP hD hS (by decide) (by decide) dX8_init_444 ?_
  clear hP hD hS
  intro H locs hP hD hS
  obtain ⟨g25, eg25⟩ : ∃ y9_ : Nat → Int32, y9_ = upd g24 25 (-1473132947) := ⟨_, rfl⟩
  rw [← eg25] at hP hD
  have z25 : ∀ k, k < 26 → g25 k = sRC k := lt_s (fun k hk => by rw [eg25, upd_ne (by omega)]; exact z24 k hk) (by rw [eg25, upd_self]; rfl)
  refine lv_dup hx hb dX8_init_445 rfl ?_
  refine lv_bipush (v := 26) hx hb dX8_init_446 (by decide) ?_
  refine lv_ldc hx hb hown (hts (.constant RX8 133 (-1341970488)) (by decide +kernel)) dX8_init_448 ?_
  refine xfill (k := 26) (n := 64) hx hb hev hP hD hS (by decide) (by decide) dX8_init_450 ?_
  clear hP hD hS
  intro H locs hP hD hS
  obtain ⟨g26, eg26⟩ : ∃ y9_ : Nat → Int32, y9_ = upd g25 26 (-1341970488) := ⟨_, rfl⟩
  rw [← eg26] at hP hD
  have z26 : ∀ k, k < 27 → g26 k = sRC k := lt_s (fun k hk => by rw [eg26, upd_ne (by omega)]; exact z25 k hk) (by rw [eg26, upd_self]; rfl)
  refine lv_dup hx hb dX8_init_451 rfl ?_
  refine lv_bipush (v := 27) hx hb dX8_init_452 (by decide) ?_
  refine lv_ldc hx hb hown (hts (.constant RX8 134 (-1084653625)) (by decide +kernel)) dX8_init_454 ?_
  refine xfill (k := 27) (n := 64) hx hb hev hP hD hS (by decide) (by decide) dX8_init_456 ?_
  clear hP hD hS
  intro H locs hP hD hS
  obtain ⟨g27, eg27⟩ : ∃ y9_ : Nat → Int32, y9_ = upd g26 27 (-1084653625) := ⟨_, rfl⟩
  rw [← eg27] at hP hD
  have z27 : ∀ k, k < 28 → g27 k = sRC k := lt_s (fun k hk => by rw [eg27, upd_ne (by omega)]; exact z26 k hk) (by rw [eg27, upd_self]; rfl)
  refine lv_dup hx hb dX8_init_457 rfl ?_
  refine lv_bipush (v := 28) hx hb dX8_init_458 (by decide) ?_
  refine lv_ldc hx hb hown (hts (.constant RX8 135 (-958395405)) (by decide +kernel)) dX8_init_460 ?_
  refine xfill (k := 28) (n := 64) hx hb hev hP hD hS (by decide) (by decide) dX8_init_462 ?_
  clear hP hD hS
  intro H locs hP hD hS
  obtain ⟨g28, eg28⟩ : ∃ y9_ : Nat → Int32, y9_ = upd g27 28 (-958395405) := ⟨_, rfl⟩
  rw [← eg28] at hP hD
  have z28 : ∀ k, k < 29 → g28 k = sRC k := lt_s (fun k hk => by rw [eg28, upd_ne (by omega)]; exact z27 k hk) (by rw [eg28, upd_self]; rfl)
  refine lv_dup hx hb dX8_init_463 rfl ?_
  refine lv_bipush (v := 29) hx hb dX8_init_464 (by decide) ?_
  refine lv_ldc hx hb hown (hts (.constant RX8 136 (-710438585)) (by decide +kernel)) dX8_init_466 ?_
  refine xfill (k := 29) (n := 64) hx hb hev hP hD hS (by decide) (by decide) dX8_init_468 ?_
  clear hP hD hS
  intro H locs hP hD hS
  obtain ⟨g29, eg29⟩ : ∃ y9_ : Nat → Int32, y9_ = upd g28 29 (-710438585) := ⟨_, rfl⟩
  rw [← eg29] at hP hD
  have z29 : ∀ k, k < 30 → g29 k = sRC k := lt_s (fun k hk => by rw [eg29, upd_ne (by omega)]; exact z28 k hk) (by rw [eg29, upd_self]; rfl)
  refine lv_dup hx hb dX8_init_469 rfl ?_
  refine lv_bipush (v := 30) hx hb dX8_init_470 (by decide) ?_
  refine lv_ldc hx hb hown (hts (.constant RX8 137 (113926993)) (by decide +kernel)) dX8_init_472 ?_
  refine xfill (k := 30) (n := 64) hx hb hev hP hD hS (by decide) (by decide) dX8_init_474 ?_
  clear hP hD hS
  intro H locs hP hD hS
  obtain ⟨g30, eg30⟩ : ∃ y9_ : Nat → Int32, y9_ = upd g29 30 (113926993) := ⟨_, rfl⟩
  rw [← eg30] at hP hD
  have z30 : ∀ k, k < 31 → g30 k = sRC k := lt_s (fun k hk => by rw [eg30, upd_ne (by omega)]; exact z29 k hk) (by rw [eg30, upd_self]; rfl)
  refine lv_dup hx hb dX8_init_475 rfl ?_
  refine lv_bipush (v := 31) hx hb dX8_init_476 (by decide) ?_
  refine lv_ldc hx hb hown (hts (.constant RX8 138 (338241895)) (by decide +kernel)) dX8_init_478 ?_
  refine xfill (k := 31) (n := 64) hx hb hev hP hD hS (by decide) (by decide) dX8_init_480 ?_
  clear hP hD hS
  intro H locs hP hD hS
  obtain ⟨g31, eg31⟩ : ∃ y9_ : Nat → Int32, y9_ = upd g30 31 (338241895) := ⟨_, rfl⟩
  rw [← eg31] at hP hD
  have z31 : ∀ k, k < 32 → g31 k = sRC k := lt_s (fun k hk => by rw [eg31, upd_ne (by omega)]; exact z30 k hk) (by rw [eg31, upd_self]; rfl)
  exact kk _ _ _ hP hD hS z31
end XF

section XF
variable {p : Program} {l : Launch} {e : Env} {R : Room} {s : State} {m : MethodId} {args : Array Value} {below : List Frame} {meth : Method} {c : Code} {H : Heap} {locs : List Loc} {cells slots : Nat} {Q : State → Prop}
variable {ls : Array Slot} {rest : List Value} {A : Nat → Prop} {H0 : Heap} {E : xE} {w : va_W} {q : Nat} {f : Nat → Int32}
set_option maxHeartbeats 4000000 in
theorem xsegR4 (hx : p.tables.exec = Jvm.exec) (hb : c.code = cX8_init) (hown : s.vm.findClass "SignQuorumModel" = some m.cls) (hts : ∀ w ∈ wsX8_init, w.before args s = true) (hev : xEv E s) (hP : va_P E.1 vwCl (w ++ [(q, aI E 64 f)]) H) (hD : va_D A (w ++ [(q, aI E 64 f)])) (hS : va_S A H0 H locs) (hf : ∀ k, k < 32 → f k = sRC k)
    (kk : ∀ (H1 : Heap) (locs1 : List Loc) (f1 : Nat → Int32), va_P E.1 vwCl (w ++ [(q, aI E 64 f1)]) H1 → va_D A (w ++ [(q, aI E 64 f1)]) → va_S A H0 H1 locs1 → (∀ k, k < 40 → f1 k = sRC k) → W p l e R s m args below meth c H1 locs1 cells slots Q (F0 m 529 ls (.ref q :: rest))) : W p l e R s m args below meth c H locs cells slots Q (F0 m 481 ls (.ref q :: rest)) := by
  refine lv_dup hx hb dX8_init_481 rfl ?_
  refine lv_bipush (v := 32) hx hb dX8_init_482 (by decide) ?_
  refine lv_ldc hx hb hown (hts (.constant RX8 139 (666307205)) (by decide +kernel)) dX8_init_484 ?_
  refine xfill (k := 32) (n := 64) hx hb hev hP hD hS (by decide) (by decide) dX8_init_486 ?_
  clear hP hD hS
  intro H locs hP hD hS
  obtain ⟨g32, eg32⟩ : ∃ y9_ : Nat → Int32, y9_ = upd f 32 (666307205) := ⟨_, rfl⟩
  rw [← eg32] at hP hD
  have z32 : ∀ k, k < 33 → g32 k = sRC k := lt_s (fun k hk => by rw [eg32, upd_ne (by omega)]; exact hf k hk) (by rw [eg32, upd_self]; rfl)
  refine lv_dup hx hb dX8_init_487 rfl ?_
  refine lv_bipush (v := 33) hx hb dX8_init_488 (by decide) ?_
  refine lv_ldc hx hb hown (hts (.constant RX8 140 (773529912)) (by decide +kernel)) dX8_init_490 ?_
  refine xfill (k := 33) (n := 64) hx hb hev hP hD hS (by decide) (by decide) dX8_init_492 ?_
  clear hP hD hS
  intro H locs hP hD hS
  obtain ⟨g33, eg33⟩ : ∃ y9_ : Nat → Int32, y9_ = upd g32 33 (773529912) := ⟨_, rfl⟩
  rw [← eg33] at hP hD
  have z33 : ∀ k, k < 34 → g33 k = sRC k := lt_s (fun k hk => by rw [eg33, upd_ne (by omega)]; exact z32 k hk) (by rw [eg33, upd_self]; rfl)
  refine lv_dup hx hb dX8_init_493 rfl ?_
  refine lv_bipush (v := 34) hx hb dX8_init_494 (by decide) ?_
  refine lv_ldc hx hb hown (hts (.constant RX8 141 (1294757372)) (by decide +kernel)) dX8_init_496 ?_
  refine xfill (k := 34) (n := 64) hx hb hev hP hD hS (by decide) (by decide) dX8_init_498 ?_
  clear hP hD hS
  intro H locs hP hD hS
  obtain ⟨g34, eg34⟩ : ∃ y9_ : Nat → Int32, y9_ = upd g33 34 (1294757372) := ⟨_, rfl⟩
  rw [← eg34] at hP hD
  have z34 : ∀ k, k < 35 → g34 k = sRC k := lt_s (fun k hk => by rw [eg34, upd_ne (by omega)]; exact z33 k hk) (by rw [eg34, upd_self]; rfl)
  refine lv_dup hx hb dX8_init_499 rfl ?_
  refine lv_bipush (v := 35) hx hb dX8_init_500 (by decide) ?_
  refine lv_ldc hx hb hown (hts (.constant RX8 142 (1396182291)) (by decide +kernel)) dX8_init_502 ?_
  refine xfill (k := 35) (n := 64) hx hb hev hP hD hS (by decide) (by decide) dX8_init_504 ?_
  clear hP hD hS
  intro H locs hP hD hS
  obtain ⟨g35, eg35⟩ : ∃ y9_ : Nat → Int32, y9_ = upd g34 35 (1396182291) := ⟨_, rfl⟩
  rw [← eg35] at hP hD
  have z35 : ∀ k, k < 36 → g35 k = sRC k := lt_s (fun k hk => by rw [eg35, upd_ne (by omega)]; exact z34 k hk) (by rw [eg35, upd_self]; rfl)
  refine lv_dup hx hb dX8_init_505 rfl ?_
  refine lv_bipush (v := 36) hx hb dX8_init_506 (by decide) ?_
  refine lv_ldc hx hb hown (hts (.constant RX8 143 (1695183700)) (by decide +kernel)) dX8_init_508 ?_
  refine xfill (k := 36) (n := 64) hx hb hev hP hD hS (by decide) (by decide) dX8_init_510 ?_
  clear hP hD hS
  intro H locs hP hD hS
  obtain ⟨g36, eg36⟩ : ∃ y9_ : Nat → Int32, y9_ = upd g35 36 (1695183700) := ⟨_, rfl⟩
  rw [← eg36] at hP hD
  have z36 : ∀ k, k < 37 → g36 k = sRC k := lt_s (fun k hk => by rw [eg36, upd_ne (by omega)]; exact z35 k hk) (by rw [eg36, upd_self]; rfl)
  refine lv_dup hx hb dX8_init_511 rfl ?_
  refine lv_bipush (v := 37) hx hb dX8_init_512 (by decide) ?_
  refine lv_ldc hx hb hown (hts (.constant RX8 144 (1986661051)) (by decide +kernel)) dX8_init_514 ?_
  refine xfill (k := 37) (n := 64) hx hb hev hP hD hS (by decide) (by decide) dX8_init_516 ?_
  clear hP hD hS
  intro H locs hP hD hS
  obtain ⟨g37, eg37⟩ : ∃ y9_ : Nat → Int32, y9_ = upd g36 37 (1986661051) := ⟨_, rfl⟩
  rw [← eg37] at hP hD
  have z37 : ∀ k, k < 38 → g37 k = sRC k := lt_s (fun k hk => by rw [eg37, upd_ne (by omega)]; exact z36 k hk) (by rw [eg37, upd_self]; rfl)
  refine lv_dup hx hb dX8_init_517 rfl ?_
  refine lv_bipush (v := 38) hx hb dX8_init_518 (by decide) ?_
  refine lv_ldc hx hb hown (hts (.constant RX8 145 (-2117940946)) (by decide +kernel)) dX8_init_520 ?_
  refine xfill (k := 38) (n := 64) hx hb hev hP hD hS (by decide) (by decide) dX8_init_522 ?_
  clear hP hD hS
  intro H locs hP hD hS
  obtain ⟨g38, eg38⟩ : ∃ y9_ : Nat → Int32, y9_ = upd g37 38 (-2117940946) := ⟨_, rfl⟩
  rw [← eg38] at hP hD
  have z38 : ∀ k, k < 39 → g38 k = sRC k := lt_s (fun k hk => by rw [eg38, upd_ne (by omega)]; exact z37 k hk) (by rw [eg38, upd_self]; rfl)
  refine lv_dup hx hb dX8_init_523 rfl ?_
  refine lv_bipush (v := 39) hx hb dX8_init_524 (by decide) ?_
  refine lv_ldc hx hb hown (hts (.constant RX8 146 (-1838011259)) (by decide +kernel)) dX8_init_526 ?_
  refine xfill (k := 39) (n := 64) hx hb hev hP hD hS (by decide) (by decide) dX8_init_528 ?_
  clear hP hD hS
  intro H locs hP hD hS
  obtain ⟨g39, eg39⟩ : ∃ y9_ : Nat → Int32, y9_ = upd g38 39 (-1838011259) := ⟨_, rfl⟩
  rw [← eg39] at hP hD
  have z39 : ∀ k, k < 40 → g39 k = sRC k := lt_s (fun k hk => by rw [eg39, upd_ne (by omega)]; exact z38 k hk) (by rw [eg39, upd_self]; rfl)
  exact kk _ _ _ hP hD hS z39
end XF

section XF
variable {p : Program} {l : Launch} {e : Env} {R : Room} {s : State} {m : MethodId} {args : Array Value} {below : List Frame} {meth : Method} {c : Code} {H : Heap} {locs : List Loc} {cells slots : Nat} {Q : State → Prop}
variable {ls : Array Slot} {rest : List Value} {A : Nat → Prop} {H0 : Heap} {E : xE} {w : va_W} {q : Nat} {f : Nat → Int32}
set_option maxHeartbeats 4000000 in
theorem xsegR5 (hx : p.tables.exec = Jvm.exec) (hb : c.code = cX8_init) (hown : s.vm.findClass "SignQuorumModel" = some m.cls) (hts : ∀ w ∈ wsX8_init, w.before args s = true) (hev : xEv E s) (hP : va_P E.1 vwCl (w ++ [(q, aI E 64 f)]) H) (hD : va_D A (w ++ [(q, aI E 64 f)])) (hS : va_S A H0 H locs) (hf : ∀ k, k < 40 → f k = sRC k)
    (kk : ∀ (H1 : Heap) (locs1 : List Loc) (f1 : Nat → Int32), va_P E.1 vwCl (w ++ [(q, aI E 64 f1)]) H1 → va_D A (w ++ [(q, aI E 64 f1)]) → va_S A H0 H1 locs1 → (∀ k, k < 48 → f1 k = sRC k) → W p l e R s m args below meth c H1 locs1 cells slots Q (F0 m 577 ls (.ref q :: rest))) : W p l e R s m args below meth c H locs cells slots Q (F0 m 529 ls (.ref q :: rest)) := by
  refine lv_dup hx hb dX8_init_529 rfl ?_
  refine lv_bipush (v := 40) hx hb dX8_init_530 (by decide) ?_
  refine lv_ldc hx hb hown (hts (.constant RX8 147 (-1564481375)) (by decide +kernel)) dX8_init_532 ?_
  refine xfill (k := 40) (n := 64) hx hb hev hP hD hS (by decide) (by decide) dX8_init_534 ?_
  clear hP hD hS
  intro H locs hP hD hS
  obtain ⟨g40, eg40⟩ : ∃ y9_ : Nat → Int32, y9_ = upd f 40 (-1564481375) := ⟨_, rfl⟩
  rw [← eg40] at hP hD
  have z40 : ∀ k, k < 41 → g40 k = sRC k := lt_s (fun k hk => by rw [eg40, upd_ne (by omega)]; exact hf k hk) (by rw [eg40, upd_self]; rfl)
  refine lv_dup hx hb dX8_init_535 rfl ?_
  refine lv_bipush (v := 41) hx hb dX8_init_536 (by decide) ?_
  refine lv_ldc hx hb hown (hts (.constant RX8 148 (-1474664885)) (by decide +kernel)) dX8_init_538 ?_
  refine xfill (k := 41) (n := 64) hx hb hev hP hD hS (by decide) (by decide) dX8_init_540 ?_
  clear hP hD hS
  intro H locs hP hD hS
  obtain ⟨g41, eg41⟩ : ∃ y9_ : Nat → Int32, y9_ = upd g40 41 (-1474664885) := ⟨_, rfl⟩
  rw [← eg41] at hP hD
  have z41 : ∀ k, k < 42 → g41 k = sRC k := lt_s (fun k hk => by rw [eg41, upd_ne (by omega)]; exact z40 k hk) (by rw [eg41, upd_self]; rfl)
  refine lv_dup hx hb dX8_init_541 rfl ?_
  refine lv_bipush (v := 42) hx hb dX8_init_542 (by decide) ?_
  refine lv_ldc hx hb hown (hts (.constant RX8 149 (-1035236496)) (by decide +kernel)) dX8_init_544 ?_
  refine xfill (k := 42) (n := 64) hx hb hev hP hD hS (by decide) (by decide) dX8_init_546 ?_
  clear hP hD hS
  intro H locs hP hD hS
  obtain ⟨g42, eg42⟩ : ∃ y9_ : Nat → Int32, y9_ = upd g41 42 (-1035236496) := ⟨_, rfl⟩
  rw [← eg42] at hP hD
  have z42 : ∀ k, k < 43 → g42 k = sRC k := lt_s (fun k hk => by rw [eg42, upd_ne (by omega)]; exact z41 k hk) (by rw [eg42, upd_self]; rfl)
  refine lv_dup hx hb dX8_init_547 rfl ?_
  refine lv_bipush (v := 43) hx hb dX8_init_548 (by decide) ?_
  refine lv_ldc hx hb hown (hts (.constant RX8 150 (-949202525)) (by decide +kernel)) dX8_init_550 ?_
  refine xfill (k := 43) (n := 64) hx hb hev hP hD hS (by decide) (by decide) dX8_init_552 ?_
  clear hP hD hS
  intro H locs hP hD hS
  obtain ⟨g43, eg43⟩ : ∃ y9_ : Nat → Int32, y9_ = upd g42 43 (-949202525) := ⟨_, rfl⟩
  rw [← eg43] at hP hD
  have z43 : ∀ k, k < 44 → g43 k = sRC k := lt_s (fun k hk => by rw [eg43, upd_ne (by omega)]; exact z42 k hk) (by rw [eg43, upd_self]; rfl)
  refine lv_dup hx hb dX8_init_553 rfl ?_
  refine lv_bipush (v := 44) hx hb dX8_init_554 (by decide) ?_
  refine lv_ldc hx hb hown (hts (.constant RX8 151 (-778901479)) (by decide +kernel)) dX8_init_556 ?_
  refine xfill (k := 44) (n := 64) hx hb hev hP hD hS (by decide) (by decide) dX8_init_558 ?_
  clear hP hD hS
  intro H locs hP hD hS
  obtain ⟨g44, eg44⟩ : ∃ y9_ : Nat → Int32, y9_ = upd g43 44 (-778901479) := ⟨_, rfl⟩
  rw [← eg44] at hP hD
  have z44 : ∀ k, k < 45 → g44 k = sRC k := lt_s (fun k hk => by rw [eg44, upd_ne (by omega)]; exact z43 k hk) (by rw [eg44, upd_self]; rfl)
  refine lv_dup hx hb dX8_init_559 rfl ?_
  refine lv_bipush (v := 45) hx hb dX8_init_560 (by decide) ?_
  refine lv_ldc hx hb hown (hts (.constant RX8 152 (-694614492)) (by decide +kernel)) dX8_init_562 ?_
  refine xfill (k := 45) (n := 64) hx hb hev hP hD hS (by decide) (by decide) dX8_init_564 ?_
  clear hP hD hS
  intro H locs hP hD hS
  obtain ⟨g45, eg45⟩ : ∃ y9_ : Nat → Int32, y9_ = upd g44 45 (-694614492) := ⟨_, rfl⟩
  rw [← eg45] at hP hD
  have z45 : ∀ k, k < 46 → g45 k = sRC k := lt_s (fun k hk => by rw [eg45, upd_ne (by omega)]; exact z44 k hk) (by rw [eg45, upd_self]; rfl)
  refine lv_dup hx hb dX8_init_565 rfl ?_
  refine lv_bipush (v := 46) hx hb dX8_init_566 (by decide) ?_
  refine lv_ldc hx hb hown (hts (.constant RX8 153 (-200395387)) (by decide +kernel)) dX8_init_568 ?_
  refine xfill (k := 46) (n := 64) hx hb hev hP hD hS (by decide) (by decide) dX8_init_570 ?_
  clear hP hD hS
  intro H locs hP hD hS
  obtain ⟨g46, eg46⟩ : ∃ y9_ : Nat → Int32, y9_ = upd g45 46 (-200395387) := ⟨_, rfl⟩
  rw [← eg46] at hP hD
  have z46 : ∀ k, k < 47 → g46 k = sRC k := lt_s (fun k hk => by rw [eg46, upd_ne (by omega)]; exact z45 k hk) (by rw [eg46, upd_self]; rfl)
  refine lv_dup hx hb dX8_init_571 rfl ?_
  refine lv_bipush (v := 47) hx hb dX8_init_572 (by decide) ?_
  refine lv_ldc hx hb hown (hts (.constant RX8 154 (275423344)) (by decide +kernel)) dX8_init_574 ?_
  refine xfill (k := 47) (n := 64) hx hb hev hP hD hS (by decide) (by decide) dX8_init_576 ?_
  clear hP hD hS
  intro H locs hP hD hS
  obtain ⟨g47, eg47⟩ : ∃ y9_ : Nat → Int32, y9_ = upd g46 47 (275423344) := ⟨_, rfl⟩
  rw [← eg47] at hP hD
  have z47 : ∀ k, k < 48 → g47 k = sRC k := lt_s (fun k hk => by rw [eg47, upd_ne (by omega)]; exact z46 k hk) (by rw [eg47, upd_self]; rfl)
  exact kk _ _ _ hP hD hS z47
end XF

section XF
variable {p : Program} {l : Launch} {e : Env} {R : Room} {s : State} {m : MethodId} {args : Array Value} {below : List Frame} {meth : Method} {c : Code} {H : Heap} {locs : List Loc} {cells slots : Nat} {Q : State → Prop}
variable {ls : Array Slot} {rest : List Value} {A : Nat → Prop} {H0 : Heap} {E : xE} {w : va_W} {q : Nat} {f : Nat → Int32}
set_option maxHeartbeats 4000000 in
theorem xsegR6 (hx : p.tables.exec = Jvm.exec) (hb : c.code = cX8_init) (hown : s.vm.findClass "SignQuorumModel" = some m.cls) (hts : ∀ w ∈ wsX8_init, w.before args s = true) (hev : xEv E s) (hP : va_P E.1 vwCl (w ++ [(q, aI E 64 f)]) H) (hD : va_D A (w ++ [(q, aI E 64 f)])) (hS : va_S A H0 H locs) (hf : ∀ k, k < 48 → f k = sRC k)
    (kk : ∀ (H1 : Heap) (locs1 : List Loc) (f1 : Nat → Int32), va_P E.1 vwCl (w ++ [(q, aI E 64 f1)]) H1 → va_D A (w ++ [(q, aI E 64 f1)]) → va_S A H0 H1 locs1 → (∀ k, k < 56 → f1 k = sRC k) → W p l e R s m args below meth c H1 locs1 cells slots Q (F0 m 625 ls (.ref q :: rest))) : W p l e R s m args below meth c H locs cells slots Q (F0 m 577 ls (.ref q :: rest)) := by
  refine lv_dup hx hb dX8_init_577 rfl ?_
  refine lv_bipush (v := 48) hx hb dX8_init_578 (by decide) ?_
  refine lv_ldc hx hb hown (hts (.constant RX8 155 (430227734)) (by decide +kernel)) dX8_init_580 ?_
  refine xfill (k := 48) (n := 64) hx hb hev hP hD hS (by decide) (by decide) dX8_init_582 ?_
  clear hP hD hS
  intro H locs hP hD hS
  obtain ⟨g48, eg48⟩ : ∃ y9_ : Nat → Int32, y9_ = upd f 48 (430227734) := ⟨_, rfl⟩
  rw [← eg48] at hP hD
  have z48 : ∀ k, k < 49 → g48 k = sRC k := lt_s (fun k hk => by rw [eg48, upd_ne (by omega)]; exact hf k hk) (by rw [eg48, upd_self]; rfl)
  refine lv_dup hx hb dX8_init_583 rfl ?_
  refine lv_bipush (v := 49) hx hb dX8_init_584 (by decide) ?_
  refine lv_ldc hx hb hown (hts (.constant RX8 156 (506948616)) (by decide +kernel)) dX8_init_586 ?_
  refine xfill (k := 49) (n := 64) hx hb hev hP hD hS (by decide) (by decide) dX8_init_588 ?_
  clear hP hD hS
  intro H locs hP hD hS
  obtain ⟨g49, eg49⟩ : ∃ y9_ : Nat → Int32, y9_ = upd g48 49 (506948616) := ⟨_, rfl⟩
  rw [← eg49] at hP hD
  have z49 : ∀ k, k < 50 → g49 k = sRC k := lt_s (fun k hk => by rw [eg49, upd_ne (by omega)]; exact z48 k hk) (by rw [eg49, upd_self]; rfl)
  refine lv_dup hx hb dX8_init_589 rfl ?_
  refine lv_bipush (v := 50) hx hb dX8_init_590 (by decide) ?_
  refine lv_ldc hx hb hown (hts (.constant RX8 157 (659060556)) (by decide +kernel)) dX8_init_592 ?_
  refine xfill (k := 50) (n := 64) hx hb hev hP hD hS (by decide) (by decide) dX8_init_594 ?_
  clear hP hD hS
  intro H locs hP hD hS
  obtain ⟨g50, eg50⟩ : ∃ y9_ : Nat → Int32, y9_ = upd g49 50 (659060556) := ⟨_, rfl⟩
  rw [← eg50] at hP hD
  have z50 : ∀ k, k < 51 → g50 k = sRC k := lt_s (fun k hk => by rw [eg50, upd_ne (by omega)]; exact z49 k hk) (by rw [eg50, upd_self]; rfl)
  refine lv_dup hx hb dX8_init_595 rfl ?_
  refine lv_bipush (v := 51) hx hb dX8_init_596 (by decide) ?_
  refine lv_ldc hx hb hown (hts (.constant RX8 158 (883997877)) (by decide +kernel)) dX8_init_598 ?_
  refine xfill (k := 51) (n := 64) hx hb hev hP hD hS (by decide) (by decide) dX8_init_600 ?_
  clear hP hD hS
  intro H locs hP hD hS
  obtain ⟨g51, eg51⟩ : ∃ y9_ : Nat → Int32, y9_ = upd g50 51 (883997877) := ⟨_, rfl⟩
  rw [← eg51] at hP hD
  have z51 : ∀ k, k < 52 → g51 k = sRC k := lt_s (fun k hk => by rw [eg51, upd_ne (by omega)]; exact z50 k hk) (by rw [eg51, upd_self]; rfl)
  refine lv_dup hx hb dX8_init_601 rfl ?_
  refine lv_bipush (v := 52) hx hb dX8_init_602 (by decide) ?_
  refine lv_ldc hx hb hown (hts (.constant RX8 159 (958139571)) (by decide +kernel)) dX8_init_604 ?_
  refine xfill (k := 52) (n := 64) hx hb hev hP hD hS (by decide) (by decide) dX8_init_606 ?_
  clear hP hD hS
  intro H locs hP hD hS
  obtain ⟨g52, eg52⟩ : ∃ y9_ : Nat → Int32, y9_ = upd g51 52 (958139571) := ⟨_, rfl⟩
  rw [← eg52] at hP hD
  have z52 : ∀ k, k < 53 → g52 k = sRC k := lt_s (fun k hk => by rw [eg52, upd_ne (by omega)]; exact z51 k hk) (by rw [eg52, upd_self]; rfl)
  refine lv_dup hx hb dX8_init_607 rfl ?_
  refine lv_bipush (v := 53) hx hb dX8_init_608 (by decide) ?_
  refine lv_ldc hx hb hown (hts (.constant RX8 160 (1322822218)) (by decide +kernel)) dX8_init_610 ?_
  refine xfill (k := 53) (n := 64) hx hb hev hP hD hS (by decide) (by decide) dX8_init_612 ?_
  clear hP hD hS
  intro H locs hP hD hS
  obtain ⟨g53, eg53⟩ : ∃ y9_ : Nat → Int32, y9_ = upd g52 53 (1322822218) := ⟨_, rfl⟩
  rw [← eg53] at hP hD
  have z53 : ∀ k, k < 54 → g53 k = sRC k := lt_s (fun k hk => by rw [eg53, upd_ne (by omega)]; exact z52 k hk) (by rw [eg53, upd_self]; rfl)
  refine lv_dup hx hb dX8_init_613 rfl ?_
  refine lv_bipush (v := 54) hx hb dX8_init_614 (by decide) ?_
  refine lv_ldc hx hb hown (hts (.constant RX8 161 (1537002063)) (by decide +kernel)) dX8_init_616 ?_
  refine xfill (k := 54) (n := 64) hx hb hev hP hD hS (by decide) (by decide) dX8_init_618 ?_
  clear hP hD hS
  intro H locs hP hD hS
  obtain ⟨g54, eg54⟩ : ∃ y9_ : Nat → Int32, y9_ = upd g53 54 (1537002063) := ⟨_, rfl⟩
  rw [← eg54] at hP hD
  have z54 : ∀ k, k < 55 → g54 k = sRC k := lt_s (fun k hk => by rw [eg54, upd_ne (by omega)]; exact z53 k hk) (by rw [eg54, upd_self]; rfl)
  refine lv_dup hx hb dX8_init_619 rfl ?_
  refine lv_bipush (v := 55) hx hb dX8_init_620 (by decide) ?_
  refine lv_ldc hx hb hown (hts (.constant RX8 162 (1747873779)) (by decide +kernel)) dX8_init_622 ?_
  refine xfill (k := 55) (n := 64) hx hb hev hP hD hS (by decide) (by decide) dX8_init_624 ?_
  clear hP hD hS
  intro H locs hP hD hS
  obtain ⟨g55, eg55⟩ : ∃ y9_ : Nat → Int32, y9_ = upd g54 55 (1747873779) := ⟨_, rfl⟩
  rw [← eg55] at hP hD
  have z55 : ∀ k, k < 56 → g55 k = sRC k := lt_s (fun k hk => by rw [eg55, upd_ne (by omega)]; exact z54 k hk) (by rw [eg55, upd_self]; rfl)
  exact kk _ _ _ hP hD hS z55
end XF

section XF
variable {p : Program} {l : Launch} {e : Env} {R : Room} {s : State} {m : MethodId} {args : Array Value} {below : List Frame} {meth : Method} {c : Code} {H : Heap} {locs : List Loc} {cells slots : Nat} {Q : State → Prop}
variable {ls : Array Slot} {rest : List Value} {A : Nat → Prop} {H0 : Heap} {E : xE} {w : va_W} {q : Nat} {f : Nat → Int32}
set_option maxHeartbeats 4000000 in
theorem xsegR7 (hx : p.tables.exec = Jvm.exec) (hb : c.code = cX8_init) (hown : s.vm.findClass "SignQuorumModel" = some m.cls) (hts : ∀ w ∈ wsX8_init, w.before args s = true) (hev : xEv E s) (hP : va_P E.1 vwCl (w ++ [(q, aI E 64 f)]) H) (hD : va_D A (w ++ [(q, aI E 64 f)])) (hS : va_S A H0 H locs) (hf : ∀ k, k < 56 → f k = sRC k)
    (kk : ∀ (H1 : Heap) (locs1 : List Loc) (f1 : Nat → Int32), va_P E.1 vwCl (w ++ [(q, aI E 64 f1)]) H1 → va_D A (w ++ [(q, aI E 64 f1)]) → va_S A H0 H1 locs1 → (∀ k, k < 64 → f1 k = sRC k) → W p l e R s m args below meth c H1 locs1 cells slots Q (F0 m 673 ls (.ref q :: rest))) : W p l e R s m args below meth c H locs cells slots Q (F0 m 625 ls (.ref q :: rest)) := by
  refine lv_dup hx hb dX8_init_625 rfl ?_
  refine lv_bipush (v := 56) hx hb dX8_init_626 (by decide) ?_
  refine lv_ldc hx hb hown (hts (.constant RX8 163 (1955562222)) (by decide +kernel)) dX8_init_628 ?_
  refine xfill (k := 56) (n := 64) hx hb hev hP hD hS (by decide) (by decide) dX8_init_630 ?_
  clear hP hD hS
  intro H locs hP hD hS
  obtain ⟨g56, eg56⟩ : ∃ y9_ : Nat → Int32, y9_ = upd f 56 (1955562222) := ⟨_, rfl⟩
  rw [← eg56] at hP hD
  have z56 : ∀ k, k < 57 → g56 k = sRC k := lt_s (fun k hk => by rw [eg56, upd_ne (by omega)]; exact hf k hk) (by rw [eg56, upd_self]; rfl)
  refine lv_dup hx hb dX8_init_631 rfl ?_
  refine lv_bipush (v := 57) hx hb dX8_init_632 (by decide) ?_
  refine lv_ldc hx hb hown (hts (.constant RX8 164 (2024104815)) (by decide +kernel)) dX8_init_634 ?_
  refine xfill (k := 57) (n := 64) hx hb hev hP hD hS (by decide) (by decide) dX8_init_636 ?_
  clear hP hD hS
  intro H locs hP hD hS
  obtain ⟨g57, eg57⟩ : ∃ y9_ : Nat → Int32, y9_ = upd g56 57 (2024104815) := ⟨_, rfl⟩
  rw [← eg57] at hP hD
  have z57 : ∀ k, k < 58 → g57 k = sRC k := lt_s (fun k hk => by rw [eg57, upd_ne (by omega)]; exact z56 k hk) (by rw [eg57, upd_self]; rfl)
  refine lv_dup hx hb dX8_init_637 rfl ?_
  refine lv_bipush (v := 58) hx hb dX8_init_638 (by decide) ?_
  refine lv_ldc hx hb hown (hts (.constant RX8 165 (-2067236844)) (by decide +kernel)) dX8_init_640 ?_
  refine xfill (k := 58) (n := 64) hx hb hev hP hD hS (by decide) (by decide) dX8_init_642 ?_
  clear hP hD hS
  intro H locs hP hD hS
  obtain ⟨g58, eg58⟩ : ∃ y9_ : Nat → Int32, y9_ = upd g57 58 (-2067236844) := ⟨_, rfl⟩
  rw [← eg58] at hP hD
  have z58 : ∀ k, k < 59 → g58 k = sRC k := lt_s (fun k hk => by rw [eg58, upd_ne (by omega)]; exact z57 k hk) (by rw [eg58, upd_self]; rfl)
  refine lv_dup hx hb dX8_init_643 rfl ?_
  refine lv_bipush (v := 59) hx hb dX8_init_644 (by decide) ?_
  refine lv_ldc hx hb hown (hts (.constant RX8 166 (-1933114872)) (by decide +kernel)) dX8_init_646 ?_
  refine xfill (k := 59) (n := 64) hx hb hev hP hD hS (by decide) (by decide) dX8_init_648 ?_
  clear hP hD hS
  intro H locs hP hD hS
  obtain ⟨g59, eg59⟩ : ∃ y9_ : Nat → Int32, y9_ = upd g58 59 (-1933114872) := ⟨_, rfl⟩
  rw [← eg59] at hP hD
  have z59 : ∀ k, k < 60 → g59 k = sRC k := lt_s (fun k hk => by rw [eg59, upd_ne (by omega)]; exact z58 k hk) (by rw [eg59, upd_self]; rfl)
  refine lv_dup hx hb dX8_init_649 rfl ?_
  refine lv_bipush (v := 60) hx hb dX8_init_650 (by decide) ?_
  refine lv_ldc hx hb hown (hts (.constant RX8 167 (-1866530822)) (by decide +kernel)) dX8_init_652 ?_
  refine xfill (k := 60) (n := 64) hx hb hev hP hD hS (by decide) (by decide) dX8_init_654 ?_
  clear hP hD hS
  intro H locs hP hD hS
  obtain ⟨g60, eg60⟩ : ∃ y9_ : Nat → Int32, y9_ = upd g59 60 (-1866530822) := ⟨_, rfl⟩
  rw [← eg60] at hP hD
  have z60 : ∀ k, k < 61 → g60 k = sRC k := lt_s (fun k hk => by rw [eg60, upd_ne (by omega)]; exact z59 k hk) (by rw [eg60, upd_self]; rfl)
  refine lv_dup hx hb dX8_init_655 rfl ?_
  refine lv_bipush (v := 61) hx hb dX8_init_656 (by decide) ?_
  refine lv_ldc hx hb hown (hts (.constant RX8 168 (-1538233109)) (by decide +kernel)) dX8_init_658 ?_
  refine xfill (k := 61) (n := 64) hx hb hev hP hD hS (by decide) (by decide) dX8_init_660 ?_
  clear hP hD hS
  intro H locs hP hD hS
  obtain ⟨g61, eg61⟩ : ∃ y9_ : Nat → Int32, y9_ = upd g60 61 (-1538233109) := ⟨_, rfl⟩
  rw [← eg61] at hP hD
  have z61 : ∀ k, k < 62 → g61 k = sRC k := lt_s (fun k hk => by rw [eg61, upd_ne (by omega)]; exact z60 k hk) (by rw [eg61, upd_self]; rfl)
  refine lv_dup hx hb dX8_init_661 rfl ?_
  refine lv_bipush (v := 62) hx hb dX8_init_662 (by decide) ?_
  refine lv_ldc hx hb hown (hts (.constant RX8 169 (-1090935817)) (by decide +kernel)) dX8_init_664 ?_
  refine xfill (k := 62) (n := 64) hx hb hev hP hD hS (by decide) (by decide) dX8_init_666 ?_
  clear hP hD hS
  intro H locs hP hD hS
  obtain ⟨g62, eg62⟩ : ∃ y9_ : Nat → Int32, y9_ = upd g61 62 (-1090935817) := ⟨_, rfl⟩
  rw [← eg62] at hP hD
  have z62 : ∀ k, k < 63 → g62 k = sRC k := lt_s (fun k hk => by rw [eg62, upd_ne (by omega)]; exact z61 k hk) (by rw [eg62, upd_self]; rfl)
  refine lv_dup hx hb dX8_init_667 rfl ?_
  refine lv_bipush (v := 63) hx hb dX8_init_668 (by decide) ?_
  refine lv_ldc hx hb hown (hts (.constant RX8 170 (-965641998)) (by decide +kernel)) dX8_init_670 ?_
  refine xfill (k := 63) (n := 64) hx hb hev hP hD hS (by decide) (by decide) dX8_init_672 ?_
  clear hP hD hS
  intro H locs hP hD hS
  obtain ⟨g63, eg63⟩ : ∃ y9_ : Nat → Int32, y9_ = upd g62 63 (-965641998) := ⟨_, rfl⟩
  rw [← eg63] at hP hD
  have z63 : ∀ k, k < 64 → g63 k = sRC k := lt_s (fun k hk => by rw [eg63, upd_ne (by omega)]; exact z62 k hk) (by rw [eg63, upd_self]; rfl)
  exact kk _ _ _ hP hD hS z63
end XF
