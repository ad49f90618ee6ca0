/-! the reference's counting and taking -/
theorem mxx_1 (L : Nat) : 1 ≤ mxx 1 L := by
  rw [mxx]
  split <;> omega
def mnI (x y : Nat) : Nat := if nI y < nI x then y else x
theorem nI_mnI {x y : Nat} : (if nI y < nI x then nI y else nI x) = nI (mnI x y) := by
  rw [mnI]
  split <;> rfl
def mOk (mm : Nat) (mp mz : Nat → Nat) : Prop := mm ≤ 48 ∧ ∀ q, q < mm → mp q ≤ 48 ∧ mz q ≤ 3
section
variable (b : Nat → Int32) (n : Nat) (ec : Int32) (zs : Nat → Nat) (zw : Nat → Int32) (zr zo : Nat → Bool) (zi : Nat → Int32) (mp mz : Nat → Nat)
def cnP (un : Nat → Nat) (f t s k : Nat) : Nat → Nat → Nat → Nat
  | 0, _, L => L
  | g + 1, q, L => cnP un f t s k g (q + 1) (if cpB b n ec zs zw zr zo zi mp mz f q k s = true then mnI L (prM zr un f q k t s) else L)
def cnK (un : Nat → Nat) (f t s : Nat) : Nat → Nat → Nat → Nat
  | 0, _, L => L
  | g + 1, k, L => cnK un f t s g (k + 1) (cnP b n ec zs zw zr zo zi mp mz un f t s k (t - (f + 1)) (f + 1) L)
def cnV (un : Nat → Nat) (f t s : Nat) : Nat := cnK b n ec zs zw zr zo zi mp mz un f t s 6 0 (1 + un (atN (f + 1) t s))
def cnS (f t : Nat) : Nat → Nat → (Nat → Nat) → Nat → Nat
  | 0, _, un => un
  | g + 1, s, un => cnS f t g (s + 1) (updN un (atN f t s) (cnV b n ec zs zw zr zo zi mp mz un f t s))
def cnT (f : Nat) : Nat → Nat → (Nat → Nat) → Nat → Nat
  | 0, _, un => un
  | g + 1, t, un => cnT f g (t + 1) (cnS b n ec zs zw zr zo zi mp mz f t 7 0 un)
def cn0 (f : Nat) : Nat → Nat → (Nat → Nat) → Nat → Nat
  | 0, _, un => un
  | g + 1, s, un => cn0 f g (s + 1) (updN un (atN f f s) 0)
def cnF (mm : Nat) : Nat → (Nat → Nat) → Nat → Nat
  | 0, un => un
  | f + 1, un => cnF mm f (cnT b n ec zs zw zr zo zi mp mz f (mm - f) (f + 1) (cn0 f 7 0 un))
/-- the pick of a mark: the smallest kind, the nearest partner (6: none) -/
def pkC (un : Nat → Nat) (f t s k q : Nat) : Bool := cpB b n ec zs zw zr zo zi mp mz f q k s && decide (nI (prM zr un f q k t s) = nI (un (atN f t s)))
def pkG (un : Nat → Nat) (f t s : Nat) : Nat → Nat → Nat → Nat × Nat
  | 0, k, q => (k, q)
  | g + 1, k, q => if k < 6 then (if (decide (q < t) && pkC b n ec zs zw zr zo zi mp mz un f t s k q) = true then (k, q) else if q + 1 < t then pkG un f t s g k (q + 1) else pkG un f t s g (k + 1) (f + 1)) else (k, q)
def pkF (un : Nat → Nat) (f t s : Nat) : Nat × Nat := pkG b n ec zs zw zr zo zi mp mz un f t s 400 0 (f + 1)
end
/-- an island taken: kind k, from mark f to mark q -/
def tkI (mp mz : Nat → Nat) (k f q : Nat) (par : Int32) (i : IS) : IS := (upd (iK i) (iM i) (nI k), upd (iA i) (iM i) (nI (mp f)), upd (iE i) (iM i) (nI (mp q + mz q)), upd (iT i) (iM i) 0, upd (iP i) (iM i) par, iD i, iO i, iM i + 1, iQ i, iL i, iR i)
def tkG (pick : Nat → Nat → Nat → Nat × Nat) (zr : Nat → Bool) (mp mz : Nat → Nat) : Nat → Nat → Nat → Nat → Int32 → IS → IS
  | 0, _, _, _, _, i => i
  | g + 1, f, t, s, par, i => if f < t then (if 6 ≤ (pick f t s).1 then tkG pick zr mp mz g (f + 1) t s par i else tkG pick zr mp mz g ((pick f t s).2 + 1) t s par (if zr (pick f t s).1 = true then tkI mp mz (pick f t s).1 f (pick f t s).2 par i else tkG pick zr mp mz g (f + 1) (pick f t s).2 (pick f t s).1 (nI (iM i)) (tkI mp mz (pick f t s).1 f (pick f t s).2 par i))) else i
