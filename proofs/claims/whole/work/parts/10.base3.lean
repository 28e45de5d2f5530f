section XC
variable {p : Program} {l : Launch} {e : Env} {R : Room} {s : State} {m : MethodId} {args : Array Value} {below : List Frame} {meth : Method} {c : Code} {H : Heap} {locs : List Loc} {cells slots : Nat} {Q : State → Prop}
variable {pc : Nat} {ls : Array Slot} {rest st0 : List Value} {a : Array Value} {A : Nat → Prop} {H0 : Heap} {mc ms : Nat} {E : xE} {wc wr : va_W}
theorem xci {post : Int32 → va_W → Prop} (hr : va_Run p l e R s m args below meth c H locs cells slots mc ms (F0 m pc ls st0) rest (QI E post (va_A wc H.size) a) (va_A wc H.size)) (hP : va_P E.1 vwCl (wc ++ wr) H) (hD : va_D A (wc ++ wr)) (hS : va_S A H0 H locs) (hA : ∀ q, H0.size ≤ q → A q)
    (kk : ∀ (r : Int32) (w : va_W) (H1 : Heap) (locs1 : List Loc), post r w → va_P E.1 vwCl (w ++ wr) H1 → va_D A (w ++ wr) → va_S A H0 H1 locs1 → W p l e R s m args below meth c H1 locs1 (cells + mc) (slots + ms) Q (F0 m (pc + 3) ls (.int r :: rest))) : W p l e R s m args below meth c H locs cells slots Q (F0 m pc ls st0) := by
  have hF := xfree hD hS hA
  refine va_calli hr hS (fun q _ h => hF q h) hF (fun r w t H1 locs1 ht hvm hp hB hz hk hS1 => ?_)
  obtain ⟨hP1, hD1⟩ := hB
  rw [ht] at hP1
  obtain ⟨h1, h2⟩ := xjoin hP hD hF hk hP1 hD1
  exact kk r w H1 locs1 hp h1 h2 hS1
theorem xcl {post : Int64 → va_W → Prop} (hr : va_Run p l e R s m args below meth c H locs cells slots mc ms (F0 m pc ls st0) rest (QL E post (va_A wc H.size) a) (va_A wc H.size)) (hP : va_P E.1 vwCl (wc ++ wr) H) (hD : va_D A (wc ++ wr)) (hS : va_S A H0 H locs) (hA : ∀ q, H0.size ≤ q → A q)
    (kk : ∀ (r : Int64) (w : va_W) (H1 : Heap) (locs1 : List Loc), post r w → va_P E.1 vwCl (w ++ wr) H1 → va_D A (w ++ wr) → va_S A H0 H1 locs1 → W p l e R s m args below meth c H1 locs1 (cells + mc) (slots + ms) Q (F0 m (pc + 3) ls (.long r :: rest))) : W p l e R s m args below meth c H locs cells slots Q (F0 m pc ls st0) := by
  have hF := xfree hD hS hA
  refine va_calll hr hS (fun q _ h => hF q h) hF (fun r w t H1 locs1 ht hvm hp hB hz hk hS1 => ?_)
  obtain ⟨hP1, hD1⟩ := hB
  rw [ht] at hP1
  obtain ⟨h1, h2⟩ := xjoin hP hD hF hk hP1 hD1
  exact kk r w H1 locs1 hp h1 h2 hS1
theorem xcv {post : va_W → Prop} (hr : va_Run p l e R s m args below meth c H locs cells slots mc ms (F0 m pc ls st0) rest (QV E post (va_A wc H.size) a) (va_A wc H.size)) (hP : va_P E.1 vwCl (wc ++ wr) H) (hD : va_D A (wc ++ wr)) (hS : va_S A H0 H locs) (hA : ∀ q, H0.size ≤ q → A q)
    (kk : ∀ (w : va_W) (H1 : Heap) (locs1 : List Loc), post w → va_P E.1 vwCl (w ++ wr) H1 → va_D A (w ++ wr) → va_S A H0 H1 locs1 → W p l e R s m args below meth c H1 locs1 (cells + mc) (slots + ms) Q (F0 m (pc + 3) ls rest)) : W p l e R s m args below meth c H locs cells slots Q (F0 m pc ls st0) := by
  have hF := xfree hD hS hA
  refine va_callv hr hS (fun q _ h => hF q h) hF (fun w t H1 locs1 ht hvm hp hB hz hk hS1 => ?_)
  obtain ⟨hP1, hD1⟩ := hB
  rw [ht] at hP1
  obtain ⟨h1, h2⟩ := xjoin hP hD hF hk hP1 hD1
  exact kk w H1 locs1 hp h1 h2 hS1
theorem xcr {post : Option Nat → va_W → Prop} (hr : va_Run p l e R s m args below meth c H locs cells slots mc ms (F0 m pc ls st0) rest (QR E post (va_A wc H.size) a) (va_A wc H.size)) (hP : va_P E.1 vwCl (wc ++ wr) H) (hD : va_D A (wc ++ wr)) (hS : va_S A H0 H locs) (hA : ∀ q, H0.size ≤ q → A q)
    (kk : ∀ (r : Option Nat) (w : va_W) (H1 : Heap) (locs1 : List Loc), post r w → va_P E.1 vwCl (w ++ wr) H1 → va_D A (w ++ wr) → va_S A H0 H1 locs1 → W p l e R s m args below meth c H1 locs1 (cells + mc) (slots + ms) Q (F0 m (pc + 3) ls (va_rf r :: rest))) : W p l e R s m args below meth c H locs cells slots Q (F0 m pc ls st0) := by
  have hF := xfree hD hS hA
  refine va_callq hr hS (fun q _ h => hF q h) hF (fun r w t H1 locs1 ht hvm hp hB hz hk hS1 => ?_)
  obtain ⟨hP1, hD1⟩ := hB
  rw [ht] at hP1
  obtain ⟨h1, h2⟩ := xjoin hP hD hF hk hP1 hD1
  exact kk r w H1 locs1 hp h1 h2 hS1
end XC
