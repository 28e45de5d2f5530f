def mdB (w : Nat → Int32) (k : Nat) : Int32 := jus (w (k / 4)) (nI (24 - 8 * (k % 4))) &&& 255
def f8n (m : Nat → Int32) : Nat → Int64
  | 0 => 0
  | i + 1 => (f8n m i <<< ((8 : Int32).toInt64 &&& 63)) ||| (m i).toInt64
theorem f8n_congr {m m' : Nat → Int32} : ∀ {n : Nat}, (∀ k, k < n → m k = m' k) → f8n m n = f8n m' n := by
  intro n
  induction n with
  | zero => intro _; rfl
  | succ n ih => intro h; rw [f8n, f8n, ih (fun k hk => h k (by omega)), h n (by omega)]
def shaUL (L : List Int32) : Nat → Int32 := shaU (ap (fun _ => 0) 0 L) L.length
theorem padU_congr {f g : Nat → Int32} {n : Nat} (h : ∀ j, j < n → f j = g j) (e : Nat) : padU f n e = padU g n e := by
  funext j
  unfold padU
  by_cases hj : j < n
  · rw [if_pos hj, if_pos hj, h j hj]
  · rw [if_neg hj, if_neg hj]
theorem shaU_congr {f g : Nat → Int32} {n : Nat} (h : ∀ j, j < n → f j = g j) : shaU f n = shaU g n := by
  unfold shaU
  rw [padU_congr h 64, padU_congr h 128]
theorem shaUL_of {f g ga : Nat → Int32} {n : Nat} {L : List Int32} (h : ∀ i, i < 8 → ga i = shaU g n i) (hg : g = ap f 0 L) (hn : n = L.length) : ∀ i, i < 8 → ga i = shaUL L i := by
  intro i hi
  rw [h i hi, hg, hn]
  unfold shaUL
  rw [shaU_congr (f := ap f 0 L) (g := ap (fun _ => 0) 0 L) (fun j hj => (ap0 f L hj).trans (ap0 _ L hj).symm)]
/-- a signature, as the reference makes it out of a list of bytes -/
def mSig (L : List Int32) : Int64 := f8n (mdB (shaUL L)) 8
theorem mSig_of {L : List Int32} {g30 g36 : Nat → Int32} (h1 : ∀ i, i < 8 → g36 i = shaUL L i) (h2 : ∀ k, k < 32 → g30 k = (jus (g36 (k / 4)) (nI (24 - 8 * (k % 4))) &&& 255)) : f8n g30 8 = mSig L := by
  unfold mSig
  refine f8n_congr (fun k hk => ?_)
  rw [h2 k (by omega), h1 (k / 4) (by omega)]
  rfl
/-- the sum of the lowest n bits -/
def btsI (v : Int32) : Nat → Int32
  | 0 => 0
  | k + 1 => btsI v k + ((v >>> (nI k &&& 31)) &&& 1)
/-- the last place below n at which f holds x (from b on), or none -/
def lastAt (f : Nat → Int32) (b : Nat) (x : Int32) : Nat → Option Nat
  | 0 => none
  | k + 1 => if f (b + k) = x then some k else lastAt f b x k
