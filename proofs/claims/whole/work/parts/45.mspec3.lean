/-! the reference's marks and tables -/
def mxx (x y : Nat) : Nat := if x < y then y else x
theorem nI_mxx {x y : Nat} (hx : x < 2 ^ 31) (hy : y < 2 ^ 31) : (if nI x < nI y then nI y else nI x) = nI (mxx x y) := by
  rw [mxx]
  by_cases h : x < y
  · rw [if_pos ((nI_ltI hx hy).mpr h), if_pos h]
  · rw [if_neg (fun q => h ((nI_ltI hx hy).mp q)), if_neg h]
theorem mxx_le {x y z : Nat} (hx : x ≤ z) (hy : y ≤ z) : mxx x y ≤ z := by rw [mxx]; split <;> assumption
section
variable (b : Nat → Int32) (n : Nat) (ec : Int32) (zs : Nat → Nat) (zw : Nat → Int32)
def mlS1 (j k L : Nat) : Nat := if stB b n ec zs zw k j = true then mxx L (zs k) else L
def mlS (j k L : Nat) : Nat := if cplM zs k = true then (if stB b n ec zs zw (6 + k) j = true then mxx (mlS1 b n ec zs zw j k L) (zs (6 + k)) else mlS1 b n ec zs zw j k L) else L
def mlMG (j : Nat) : Nat → Nat → Nat → Nat
  | 0, _, L => L
  | f + 1, k, L => mlMG j f (k + 1) (mlS b n ec zs zw j k L)
def mlM (j : Nat) : Nat := mlMG b n ec zs zw j 6 0 0
def fmMS (j : Nat) (q : Nat × (Nat → Nat) × (Nat → Nat)) : Nat × (Nat → Nat) × (Nat → Nat) := if mlM b n ec zs zw j = 0 then q else (q.1 + 1, updN q.2.1 q.1 j, updN q.2.2 q.1 (mlM b n ec zs zw j))
def fmMG : Nat → Nat → Nat × (Nat → Nat) × (Nat → Nat) → Nat × (Nat → Nat) × (Nat → Nat)
  | 0, _, q => q
  | f + 1, j, q => if j < n then (if b j = ec then fmMG f (j + 2) q else fmMG f (j + mxx 1 (mlM b n ec zs zw j)) (fmMS b n ec zs zw j q)) else q
end
theorem mlS1_le {b : Nat → Int32} {n : Nat} {ec : Int32} {zs : Nat → Nat} {zw : Nat → Int32} {j k L : Nat} (hz : ∀ w, zs w ≤ 3) (hL : L ≤ 3) : mlS1 b n ec zs zw j k L ≤ 3 := by
  rw [mlS1]
  split
  · exact mxx_le hL (hz _)
  · exact hL
theorem mlS_le {b : Nat → Int32} {n : Nat} {ec : Int32} {zs : Nat → Nat} {zw : Nat → Int32} {j k L : Nat} (hz : ∀ w, zs w ≤ 3) (hL : L ≤ 3) : mlS b n ec zs zw j k L ≤ 3 := by
  rw [mlS]
  split
  · split
    · exact mxx_le (mlS1_le hz hL) (hz _)
    · exact mlS1_le hz hL
  · exact hL
theorem mlMG_le {b : Nat → Int32} {n : Nat} {ec : Int32} {zs : Nat → Nat} {zw : Nat → Int32} {j : Nat} (hz : ∀ w, zs w ≤ 3) : ∀ (f k L : Nat), L ≤ 3 → mlMG b n ec zs zw j f k L ≤ 3
  | 0, _, _, h => h
  | f + 1, k, L, h => mlMG_le hz f (k + 1) _ (mlS_le hz h)
def atN (f t s : Nat) : Nat := (f * 49 + t) * 7 + s
theorem atN_lt {f t s : Nat} (hf : f ≤ 48) (ht : t ≤ 48) (hs : s ≤ 6) : atN f t s < 16807 := by rw [atN]; omega
def iwB (b : Nat → Int32) (n : Nat) (ec : Int32) (zs : Nat → Nat) (zw : Nat → Int32) (mp mz : Nat → Nat) (q w : Nat) : Bool := stB b n ec zs zw w (mp q) && decide (zs w = mz q)
def cpB (b : Nat → Int32) (n : Nat) (ec : Int32) (zs : Nat → Nat) (zw : Nat → Int32) (zr zo : Nat → Bool) (zi : Nat → Int32) (mp mz : Nat → Nat) (f q k s : Nat) : Bool := csB zs zr zo zi k s && (iwB b n ec zs zw mp mz f k && iwB b n ec zs zw mp mz q (6 + k))
def prM (zr : Nat → Bool) (un : Nat → Nat) (f q k t s : Nat) : Nat := (if zr k = true then 0 else un (atN (f + 1) q k)) + un (atN (q + 1) t s)
def setRd (i : IS) (r : Bool) : IS := (iK i, iA i, iE i, iT i, iP i, iD i, iO i, iM i, iQ i, iL i, r)
def st0 (i : IS) : IS := (iK i, iA i, iE i, iT i, iP i, iD i, iO i, 0, 0, 0, iR i)
