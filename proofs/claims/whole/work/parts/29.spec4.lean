/-! what the public methods answer and throw -/
def thP (n : Nat) (x : Int32) : Option String := if hasP n x = true then none else some xIO
def thK (x : Int32) : Option String := if (decide (x < 0) || !decide (x < 6)) = true then some xIO else none
def thR (ir : Bool) : Option String := if ir = true then none else some xIS
def thI (ir : Bool) (im : Nat) (x : Int32) : Option String := (thR ir).or (if (decide (x < 0) || !decide (x < nI im)) = true then some xIO else none)
theorem thR_n {ir : Bool} (h : thR ir = none) : ir = true := by
  cases ir with
  | true => rfl
  | false => simp [thR] at h
theorem thP_n {n : Nat} {x : Int32} (h : thP n x = none) : hasP n x = true := by
  rw [thP] at h
  split at h
  · assumption
  · cases h
theorem thI_n {ir : Bool} {im : Nat} {x : Int32} (h : thI ir im x = none) (hm : im ≤ 48) : vp_in x 48 := by
  rw [thI] at h
  cases hr : thR ir with
  | some E => rw [hr] at h; cases h
  | none =>
    rw [hr] at h
    have h : (if (decide (x < 0) || !decide (x < nI im)) = true then some xIO else none) = none := h
    split at h
    · cases h
    · next c =>
      simp only [Bool.or_eq_true, decide_eq_true_eq, Bool.not_eq_true', decide_eq_false_iff_not, not_or, Classical.not_not] at c
      rw [vp_in_iff]
      have h1 := c.1
      have h2 := c.2
      rw [Int32.lt_iff_toInt_lt] at h1
      rw [Int32.lt_iff_toInt_lt, nI_toInt (by omega)] at h2
      have : (0 : Int32).toInt = 0 := by decide
      omega
theorem thK_n {x : Int32} (h : thK x = none) : vp_in x 6 := by
  rw [thK] at h
  split at h
  · cases h
  · next c =>
    simp only [Bool.or_eq_true, decide_eq_true_eq, Bool.not_eq_true', decide_eq_false_iff_not, not_or, Classical.not_not] at c
    rw [vp_in_iff]
    have h1 := c.1
    have h2 := c.2
    rw [Int32.lt_iff_toInt_lt] at h1
    rw [Int32.lt_iff_toInt_lt] at h2
    have e1 : (0 : Int32).toInt = 0 := by decide
    have e2 : (6 : Int32).toInt = 6 := by decide
    omega
def cntG (ik it : Nat → Int32) (x y : Int32) : Nat → Nat → Nat → Nat
  | 0, _, z => z
  | n + 1, k, z => cntG ik it x y n (k + 1) (if (decide (ik k = x) && decide (it k = y)) = true then z + 1 else z)
def wKd (q x : Int32) (v : Bool) : Int32 := if v = true then q ||| ((1 : Int32) <<< (x &&& 31)) else q &&& (((1 : Int32) <<< (x &&& 31)) ^^^ (-1))
def mixd (z : Int64) (x : Int32) : Int64 := z * 31 + x.toInt64
def dgT (b : Nat → Int32) : Nat → Nat → Int64 → Int64
  | 0, _, z => z
  | n + 1, k, z => dgT b n (k + 1) (mixd z (b k))
def dgK (ko kc ki : Nat → Int32) (kr ku : Int32) : Nat → Nat → Int64 → Int64
  | 0, _, z => z
  | n + 1, k, z => dgK ko kc ki kr ku n (k + 1) (mixd (mixd (mixd (mixd z (bI (cpl ko kc (nI k)))) (bI (hk kr (nI k)))) (bI (hk ku (nI k)))) (ki k))
def dgI (ik ia ie it : Nat → Int32) : Nat → Nat → Int64 → Int64
  | 0, _, z => z
  | n + 1, k, z => dgI ik ia ie it n (k + 1) (mixd (mixd (mixd (mixd z (ik k)) (ia k)) (ie k)) (it k))
def dgW (i : IS) (z : Int64) : Int64 := mixd (dgI (iK i) (iA i) (iE i) (iT i) (iM i) 0 (mixd z (nI (iM i)))) (nI (iL i))
def dg0 (b : Nat → Int32) (n : Nat) (ec : Int32) (lt : Bool) (ko kc ki : Nat → Int32) (kr ku : Int32) : Int64 := dgK ko kc ki kr ku 6 0 (mixd (mixd (dgT b n 0 (mixd 109 (nI n))) ec) (bI lt))
def dgAll (b : Nat → Int32) (n : Nat) (ec : Int32) (lt : Bool) (ko kc ki : Nat → Int32) (kr ku : Int32) (i : IS) : Int64 := if iR i = true then dgW i (dg0 b n ec lt ko kc ki kr ku) else dg0 b n ec lt ko kc ki kr ku
/-- the bytes of a number, k from the lowest -/
def fb (x : Int64) (k : Nat) : Int32 := (x.toUInt64 >>> ((nI (8 * k)).toInt64.toUInt64 &&& Int64.toUInt64 63)).toInt64.toInt32 &&& 255
def fdC (x : Int64) : Nat → Nat → Option Nat
  | 0, z => some z
  | k + 1, z => if (!decide (fb x k = 0) && !txB (fb x k)) = true then none else fdC x k (if fb x k = 0 then z else z + 1)
def nz (x : Int64) : Nat → Nat
  | 0 => 0
  | k + 1 => (if fb x k = 0 then 0 else 1) + nz x k
theorem fdC_nz {x : Int64} : ∀ {k z z' : Nat}, fdC x k z = some z' → z' = z + nz x k
  | 0, z, z', h => by cases h; rfl
  | k + 1, z, z', h => by
    rw [fdC] at h
    split at h
    · cases h
    · have := fdC_nz h
      rw [nz, this]
      split <;> omega
def fdA (x : Int64) : Nat → (Nat → Int32) → Nat → (Nat → Int32) × Nat
  | 0, b, n => (b, n)
  | k + 1, b, n => if fb x k = 0 then fdA x k b n else fdA x k (upd b n (fb x k)) (n + 1)
def thF (x : Int64) (n : Nat) : Option String := match fdC x 8 0 with
  | none => some xIA
  | some z => if z ≤ 48 - n then none else some xIS
/-- the bytes of a word, put into one number -/
def wbt (y : Int32) (k : Nat) : Int32 := (y.toUInt32 >>> ((nI (8 * k)).toUInt32 &&& Int32.toUInt32 31)).toInt32 &&& 255
def swG (y : Int32) : Nat → Int32 → Option Int32
  | 0, w => some w
  | k + 1, w => if txB (wbt y k) = true then swG y k ((w <<< ((8 : Int32) &&& 31)) ||| wbt y k) else none
def swR (y m : Int32) : Option Int32 := if (decide (m < 0) || !decide (m ≤ 3)) = true then none else swG y m.toNatClampNeg 0
def thW (x y m : Int32) : Option String := (thK x).or (match swR y m with
  | none => some xIA
  | some _ => none)
def swV (y m : Int32) : Int32 := (swR y m).getD 0
def thS (x m : Int32) : Option String := (thK x).or (if (decide (m < 0) || !decide (m ≤ 63)) = true then some xIA else none)
def fgI (i : IS) : IS := (iK i, iA i, iE i, iT i, iP i, iD i, iO i, iM i, iQ i, iL i, false)
theorem c_fgt (l : Launch) (G : va_G) (tc : Nat → ClassId) (a : Nat → Nat) (i : IS) : kV l yX1_forget (xw yX1_forget cX1_forget 1 none) 0 G tc [.ref (a 0)] (wIs tc a i) (wIs tc a (fgI i)) := c_X1_forget l G tc a (iK i) (iA i) (iE i) (iT i) (iP i) (iD i) (iO i) (iM i) (iQ i) (iL i) (iR i)
theorem c_boc (l : Launch) (G : va_G) (tc : Nat → ClassId) (a : Nat → Nat) (i : IS) (hm : iM i ≤ 48) (x : Int32) : kI l yX1_bytesOfChildren (xw yX1_bytesOfChildren cX1_bytesOfChildren 4 (some .int)) 0 G tc [.ref (a 0), .int x] (wIs tc a i) (bocG (iP i) (iE i) (iA i) x (iM i) 0 0) (wIs tc a i) := c_X1_bytesOfChildren l G tc a (iK i) (iA i) (iE i) (iT i) (iP i) (iD i) (iO i) (iM i) (iQ i) (iL i) (iR i) hm x
theorem c_iar (l : Launch) (G : va_G) (tc : Nat → ClassId) (a : Nat → Nat) (i : IS) (hm : iM i ≤ 48) (x : Int32) : kI l yX1_innermostAround (xw yX1_innermostAround cX1_innermostAround 3 (some .int)) 0 G tc [.ref (a 0), .int x] (wIs tc a i) (iaG (iA i) (iE i) x (iM i)) (wIs tc a i) := c_X1_innermostAround l G tc a (iK i) (iA i) (iE i) (iT i) (iP i) (iD i) (iO i) (iM i) (iQ i) (iL i) (iR i) hm x
theorem cut_sub {n : Nat} {x : Int32} (h0 : ¬ x < 0) (h : x ≤ nI n) (hn : n ≤ 48) : nI n - x = nI (n - x.toNatClampNeg) := by
  obtain ⟨j, hj, rfl⟩ := nI_of h0
  have := (nI_leI hj (by omega)).mp h
  rw [nI_clamp hj, pk_sub this]
theorem sh8 (k : Nat) : nI (8 * (k + 1)) - 8 = nI (8 * k) := by
  rw [show (8 : Int32) = nI 8 from rfl, pk_sub (by omega)]
  congr 1
theorem sw_mul (x : Int32) : 8 * (x - 1) = 8 * x - 8 := by
  rw [Int32.mul_sub]
  rfl
theorem i32_a0 (x : Int32) : x + 0 = x := Int32.add_zero x
