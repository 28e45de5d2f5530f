/-! THE LAW FROM ITS ENTRY -/
theorem rfO_0 (ra : Nat → Nat) : rfO 0 ra = fun _ => none := by
  funext i
  unfold rfO
  rw [if_neg (Nat.not_lt_zero i)]
/-- the class's start is a state of the law -/
theorem CW_0 (E : xE) (x rg dr rs c0 h td ks ku na ma cr ms sc sa : Nat) (gn : Nat → Int32) (pr : Nat → RowP) : CW E (fun k => ([x, rg, dr, rs, c0, h, td, ks, ku, na, ma, cr, ms, sc, sa] : List Nat).getD k 0) 0 0 0 (fun _ => 0) (fun _ => 0) (fun a => if a = 0 then gn else fun _ => 0) (fun _ => 0) pr (fun _ => none) 0 0 = [(x, .inr (8, [.ref rg, .ref dr, .ref rs, .int 0, .ref c0, .ref h, .ref td])), (rg, .inr (3, [.ref ks, .ref ku, .int 0])), (ks, aJ E 20 (fun _ => 0)), (ku, aJ E 20 (fun _ => 0)), (dr, .inr (4, [.ref na, .ref ma])), (na, aI E 10 gn), (ma, aI E 10 (fun _ => 0)), (rs, aR E 24 (fun _ => none)), (c0, .inr (1, [.ref cr, .int 0, .int 0])), (cr, aR E 10 (fun _ => none)), (h, .inr (6, [.ref ms, .ref sc, .ref sa, .int 0])), (ms, aB E 128 (fun _ => 0)), (sc, aI E 64 (fun _ => 0)), (sa, aI E 8 (fun _ => 0)), (td, aI E 8 (fun _ => 0))] := by
  unfold CW cwL
  rw [rfO_0]
  rfl
def am0 (g6 g27 g32 g33 : Nat → Int32) : Nat → Nat → Int32 := fun a => if a = 6 then g6 else if a = 27 then g27 else if a = 32 then g32 else if a = 33 then g33 else fun _ => 0
set_option maxHeartbeats 4000000 in
set_option maxRecDepth 100000 in
theorem whole_start {p : Program} {e : Env} {s : State} {m : MethodId} {below : List Frame} {meth : Method} {c : Code} (l : Launch) (hf : l.flags = flags0) {b L : Nat} {xs : Nat → Int32} (hL : L ≤ 2560) (C0 : lw_At p s m meth c b L xs) : W p l e room_1 s m #[Value.ref b] below meth c s.heap [] 0 0 (lw_Z below #[Value.ref b] s) (entryFrame m ([Value.ref b] : List Value).toArray 7) := by
  obtain ⟨hx, hb, hr, hml, hown, hts, hX, hbl, hlocks, hgv⟩ := id C0
  have htr : l.flags = pinnedFlags ++ [noTraceFlag] := hf
  obtain ⟨E, q, hev, hz, hth⟩ := env_start hts hgv
  have G : LG p s m c b L xs E := ⟨hx, hb, hml, hown, hts, ⟨hX, hbl, hL⟩, hev, hz⟩
  have htl : ∀ w ∈ wsL_law, w.before #[Value.ref b] s = true := fun w hw => hts w (wsL_law_all w hw)
  have hA : ∀ q : Nat, s.heap.size ≤ q → lA s q := fun q hq => hq
  have hN : va_P E.1 vwCl ([] : va_W) s.heap := va_P.of (fun q hq => by cases hq)
  have hN2 : ∀ q ∈ ([] : va_W), ¬ lA s q.1 := fun q hq => by cases hq
  have hS : va_S (lA s) s.heap s.heap [] := va_S.rf
  have hD0 : va_D (lA s) ([] : va_W) := va_D.pw.mpr ⟨List.Pairwise.nil, fun q hq => by cases hq⟩
  have hl := lv_entry ([.ref b]) (n := 7) (Nat.le_of_ble_eq_true rfl)
  rw [lg_entry_eq]
  generalize (lg_sl ([.ref b]) ++ List.replicate (7 - (lg_sl ([.ref b])).length) Slot.unset).toArray = ls at hl ⊢
  have hl : lv_has ls 7 [(0, .ref b)] := hl
  have hi7 : (Cond.initialized RX7).before #[Value.ref b] s = true := htl _ (by decide +kernel)
  have hi8 : (Cond.initialized RX8).before #[Value.ref b] s = true := htl _ (by decide +kernel)
  refine va_new (ci := 8) (fs := [.null, .null, .null, .int 0, .null, .null, .null]) (C := RX7) (T := TX7) (N := 7) hx hb hts wsT_X7 tyX7 tyX7_ok hown (htl (.classLink RL 8 RX7) (by decide +kernel)) (htl (.instantiable RX7 7) (by decide +kernel)) hi7 hev.1 hN hD0 hS hA rfl (by decide) (by decide) (by decide) dL_law_0 (fun x H hP hD hS => ?_)
  have hP : va_P E.1 vwCl ([(x, .inr (8, [.null, .null, .null, .int 0, .null, .null, .null]))] ++ []) H := hP
  have hD : va_D (lA s) ([(x, .inr (8, [.null, .null, .null, .int 0, .null, .null, .null]))] ++ []) := hD
  refine lv_dup hx hb dL_law_3 rfl ?_
  refine xcv (va_runI (As := []) (rest := [.ref x]) ⟨hx, hb, hml, hown, htl⟩ (kX7_init l E x H.size) (cwI 0 htl gL_law_X7_init rfl rfl rfl hi7 (htl (.methodLink RL 15 yX7_init) (by decide +kernel)) (htl (.instanceMethod yX7_init) (by decide +kernel)) rfl (by decide +kernel) ⟨by decide, by decide⟩) ⟨CP.blind, xpre hev hz hA hP hD hS hN hN2 [] rfl⟩ rfl rfl hl.1 rfl (lv_room (Nat.le_of_ble_eq_true rfl)) dL_law_4 ⟨by decide, by decide⟩) hP hD hS hA (fun w1 H locs hp1 hP hD hS => ?_)
  refine lv_astore_n (lv' := [(1, .ref x), (0, .ref b)]) hx hb dL_law_7 rfl hl (by decide) rfl (fun ls hl => ?_)
  rw [List.append_nil] at hP hD
  refine va_new (ci := 9) (fs := mO0) (C := RX8) (T := TX8) (N := 41) hx hb hts wsT_X8 tyX8 tyX8_ok hown (htl (.classLink RL 16 RX8) (by decide +kernel)) (htl (.instantiable RX8 41) (by decide +kernel)) hi8 hev.1 hP hD hS hA rfl (by decide) (by decide) (by decide) dL_law_8 (fun mo H hP hD hS => ?_)
  have hP := hP.perm (List.perm_append_comm (l₁ := w1) (l₂ := [(mo, .inr (9, mO0))]))
  have hD := hD.perm (List.perm_append_comm (l₁ := w1) (l₂ := [(mo, .inr (9, mO0))]))
  refine lv_dup hx hb dL_law_11 rfl ?_
  refine xcv (va_runI (As := []) (rest := [.ref mo]) ⟨hx, hb, hml, hown, htl⟩ (kX8_init l E mo H.size) (cwI 0 htl gL_law_X8_init rfl rfl rfl hi8 (htl (.methodLink RL 18 yX8_init) (by decide +kernel)) (htl (.instanceMethod yX8_init) (by decide +kernel)) rfl (by decide +kernel) ⟨by decide, by decide⟩) ⟨CP.blind, xpre hev hz hA hP hD hS hN hN2 [] rfl⟩ rfl rfl hl.1 rfl (lv_room (Nat.le_of_ble_eq_true rfl)) dL_law_12 ⟨by decide, by decide⟩) hP hD hS hA (fun w2 H locs hp2 hP hD hS => ?_)
  refine lv_astore_n (lv' := [(2, .ref mo), (1, .ref x), (0, .ref b)]) hx hb dL_law_15 rfl hl (by decide) rfl (fun ls hl => ?_)
  refine lv_iconst (v := 1) hx hb dL_law_16 (by decide) ?_
  refine xnewa (atype := .long) (ty := .long) (cA0 := E.2 2) (N' := 1) (a0 := (1, (.inr (.inl (fun _ => 0))))) hx hb (htl (.arrayClass .long) (by decide +kernel)) rfl 2 hev rfl hP hD hS hA (fun _ => rfl) (by decide) (by decide) (by decide +kernel) (by decide) (by decide) dL_law_17 (fun o H hP hD hS => ?_)
  have hpm : ((w2 ++ w1) ++ [(o, aJ E 1 (fun _ => 0))]).Perm (w1 ++ (w2 ++ [(o, aJ E 1 (fun _ => 0))])) := by
    rw [List.append_assoc]
    exact pca
  have hP := hP.perm hpm
  have hD := hD.perm hpm
  refine lv_astore_n (lv' := [(3, .ref o), (2, .ref mo), (1, .ref x), (0, .ref b)]) hx hb dL_law_19 rfl hl (by decide) rfl (fun ls hl => ?_)
  refine lv_iconst (v := 0) hx hb dL_law_20 (by decide) ?_
  refine lv_istore (lv' := [(4, .int 0), (3, .ref o), (2, .ref mo), (1, .ref x), (0, .ref b)]) hx hb dL_law_21 hl (by decide) rfl (fun ls hl => ?_)
  obtain ⟨rg, dr, rs, c0, h, td, ks, ku, na, ma, cr, ms, sc, sa, gn, rfl, hgn⟩ := hp1
  obtain ⟨ad, g6, g27, g32, g33, rfl, ⟨hg1, hg2, hg3⟩⟩ := hp2
  have hLI : LI E (fun k => ([x, rg, dr, rs, c0, h, td, ks, ku, na, ma, cr, ms, sc, sa] : List Nat).getD k 0) mo ad _ _ := LI.mk (E := E) (ax := fun k => ([x, rg, dr, rs, c0, h, td, ks, ku, na, ma, cr, ms, sc, sa] : List Nat).getD k 0) (mo := mo) (ad := ad) (kn := 0) (nn := 0) (ln := 0) (fs := fun _ => 0) (fu := fun _ => 0) (gi := fun a => if a = 0 then gn else fun _ => 0) (ra := fun _ => 0) (pr := fun _ => (fun _ => 0, fun _ => 0, 0, fun _ _ => 0)) (ci := fun _ => none) (rev := 0) (sea := 0) (th := 0) (mn := 0) (dp := 0) (am := am0 g6 g27 g32 g33) (al := fun _ _ => 0) (st_0 hgn (fun k hk => hg1 k hk) hg2 hg3 ⟨rfl, rfl, rfl, rfl, rfl, rfl, rfl, rfl⟩)
  rw [CW_0] at hLI
  refine law_loop (o := o) htr hth G (fun H locs cells slots ls hS1 hc hs => ?_) (L + 1) 0 (by omega) (by omega) H locs _ _ _ _ (fun _ => 0) ls hLI hP hD hS (lv_sub hl [4, 3, 2, 1, 0] rfl) (by decide) (by decide)
  refine va_forget (fun z hz => hS1.2.2 z hz) ?_
  refine lv_iconst (v := 1) hx hb dL_law_1093 (by decide) ?_
  refine W.widen (k := 601024) (n := 7293034) (by omega) (by omega) ?_
  exact lw_ret hx hb hr hlocks dL_law_1094
