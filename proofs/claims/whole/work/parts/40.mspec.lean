/-! THE REFERENCE: its world, and what its small methods answer -/
def updN (f : Nat → Nat) (k v : Nat) : Nat → Nat := fun j => if j = k then v else f j
def updB (f : Nat → Bool) (k : Nat) (v : Bool) : Nat → Bool := fun j => if j = k then v else f j
theorem updN_eq (f : Nat → Nat) (j v : Nat) : upd (fun k => nI (f k)) j (nI v) = fun k => nI (updN f j v k) := by
  funext k
  by_cases h : k = j
  · subst h; rw [pk_us]; simp [updN]
  · rw [pk_un h]; simp [updN, h]
theorem updB_eq (f : Nat → Bool) (j : Nat) (v : Bool) : upd (fun k => bI (f k)) j (vp_nar .boolean (bI v)) = fun k => bI (updB f j v k) := by
  have hv : vp_nar .boolean (bI v) = bI v := by cases v <;> rfl
  rw [hv]
  funext k
  by_cases h : k = j
  · subst h; rw [pk_us]; simp [updB]
  · rw [pk_un h]; simp [updB, h]
def wX (tc : Nat → ClassId) (a : Nat → Nat) (th : Int32) (n : Nat) (b : Nat → Int32) (ec : Int32) (lt : Bool) (zs : Nat → Nat) (zw : Nat → Int32) (zr zo : Nat → Bool) (zi : Nat → Int32) (i : IS) (mm : Nat) (mp mz un : Nat → Nat) : va_W :=
  [(a 0, .inr (6, [.int th, .int (nI n), .ref (a 1), .int ec, .int (bI lt), .ref (a 2), .ref (a 3), .ref (a 4), .ref (a 5), .ref (a 6), .int (bI (iR i)), .int (nI (iL i)), .int (nI (iM i)), .ref (a 7), .ref (a 8), .ref (a 9), .ref (a 10), .ref (a 11), .int (nI (iQ i)), .ref (a 12), .int (nI mm), .ref (a 13), .ref (a 14), .ref (a 15)])),
   (a 1, .inl (tc 0, 48, .inl b)), (a 2, .inl (tc 0, 12, .inl (fun k => nI (zs k)))), (a 3, .inl (tc 0, 36, .inl zw)), (a 4, .inl (tc 2, 6, .inl (fun k => bI (zr k)))), (a 5, .inl (tc 2, 6, .inl (fun k => bI (zo k)))), (a 6, .inl (tc 0, 6, .inl zi)), (a 7, .inl (tc 0, 48, .inl (iK i))), (a 8, .inl (tc 0, 48, .inl (iA i))), (a 9, .inl (tc 0, 48, .inl (iE i))), (a 10, .inl (tc 0, 48, .inl (iT i))), (a 11, .inl (tc 0, 48, .inl (iP i))), (a 12, .inl (tc 0, 8, .inl (iO i))), (a 13, .inl (tc 0, 48, .inl (fun k => nI (mp k)))), (a 14, .inl (tc 0, 48, .inl (fun k => nI (mz k)))), (a 15, .inl (tc 0, 16807, .inl (fun k => nI (un k))))]
def isInB (v x y : Int32) : Bool := !decide (v < x) && !decide (y < v)
def inB6 (x : Int32) : Bool := isInB x 0 5
def cplM (zs : Nat → Nat) (k : Nat) : Bool := !decide (zs k = 0) && !decide (zs (6 + k) = 0)
theorem nI_le0 {z : Nat} (h : nI z ≤ 0) (hz : z < 2 ^ 31) : z = 0 := by
  have := (nI_leI (a := z) (b := 0) hz (by decide)).mp h
  omega
theorem nI_nle0 {z : Nat} (h : ¬ nI z ≤ 0) : ¬ z = 0 := fun q => h (by rw [q]; exact Int32.le_refl _)
theorem nI_eq0 {z : Nat} (h : nI z = 0) (hz : z < 2 ^ 31) : z = 0 := (nI_eq (b := 0) hz (by decide)).mp h
theorem nI_neq0 {z : Nat} (h : ¬ nI z = 0) : ¬ z = 0 := fun q => h (by rw [q]; rfl)
def stG (b : Nat → Int32) (ec : Int32) (zw : Nat → Int32) (w j : Nat) : Nat → Nat → Bool → Bool
  | 0, _, v => v
  | f + 1, k, v => stG b ec zw w j f (k + 1) (v && (decide (b (j + k) = zw (3 * w + k)) && !decide (b (j + k) = ec)))
def stB (b : Nat → Int32) (n : Nat) (ec : Int32) (zs : Nat → Nat) (zw : Nat → Int32) (w j : Nat) : Bool := if (decide (zs w = 0) || !decide (j + zs w ≤ n)) = true then false else stG b ec zw w j (zs w) 0 true
def csB (zs : Nat → Nat) (zr zo : Nat → Bool) (zi : Nat → Int32) (k h : Nat) : Bool := cplM zs k && (if h = 6 then zo k else !zr h && hk (zi h) (nI k))
/-- an island is begun -/
def bgJ (x y : Int32) (i : IS) : IS := (upd (iK i) (iM i) x, upd (iA i) (iM i) y, upd (iE i) (iM i) (-1), upd (iT i) (iM i) 2, upd (iP i) (iM i) (opI (iO i) (iQ i) 0), iD i, upd (iO i) (iQ i) (nI (iM i)), iM i + 1, iQ i + 1, iL i, iR i)
/-- what asks throws -/
def askT (rd : Bool) (x y : Int32) : Int32 := if rd = true then (if (decide (x < 0) || !decide (x < y)) = true then 2 else 0) else 1
theorem askT_0 {rd : Bool} {x y : Int32} (h : askT rd x y = 0) : rd = true ∧ ¬ x < 0 ∧ x < y := by
  rw [askT] at h
  split at h
  · next c =>
    split at h
    · exact absurd h (by decide)
    · next c2 =>
      simp only [Bool.or_eq_true, decide_eq_true_eq, Bool.not_eq_true', decide_eq_false_iff_not, not_or, Classical.not_not] at c2
      exact ⟨c, c2⟩
  · exact absurd h (by decide)
def wkm (x : Int32) (k : Nat) : Int32 := (x >>> (nI (8 * k) &&& 31)) &&& 255
/-- bytes of a number, as the reference takes them -/
theorem fb_eq (x : Int64) {k : Nat} (hk : k < 8) : ((x >>> ((nI (8 * k)).toInt64 &&& 63)) &&& 255).toInt32 = fb x k := by
  apply Int32.toBitVec_inj.mp
  apply BitVec.eq_of_getLsbD_eq
  intro i hi
  obtain ⟨n, hn, rfl⟩ := wb_of x
  have hL : (((lN n >>> ((nI (8 * k)).toInt64 &&& 63)) &&& 255).toInt32.toBitVec).getLsbD i = (decide (i < 8) && n.testBit (8 * k + i)) := by
    rw [wb_c (8 * k) (by omega)]
    have h255 : (255 : Int64).toBitVec = 255#64 := by decide
    rw [Int64.toBitVec_toInt32, Int64.toBitVec_and, h255, BitVec.getLsbD_signExtend, if_pos (show i < 64 by omega), BitVec.getLsbD_and, Int64.toBitVec_shiftRight, wb_tb (8 * k), wb_sm (8 * k) (by omega)]
    have ht : (BitVec.ofNat 64 (8 * k)).toNat = 8 * k := by rw [BitVec.toNat_ofNat, Nat.mod_eq_of_lt (by omega)]
    rw [BitVec.sshiftRight_eq', ht, BitVec.getLsbD_sshiftRight, wb_tb]
    have h8 : (255#64).getLsbD i = decide (i < 8) := by
      have : ∀ i, i < 32 → (255#64).getLsbD i = decide (i < 8) := by decide
      exact this i hi
    rw [h8]
    by_cases q : i < 8
    · have q2 : 8 * k + i < 64 := by omega
      rw [if_pos q2, BitVec.getLsbD_ofNat]
      simp [q, hi, q2, show ¬ 64 ≤ i by omega]
    · simp [q]
  have hR : ((fb (lN n) k).toBitVec).getLsbD i = (decide (i < 8) && n.testBit (8 * k + i)) := by
    rw [fb, wb_shr hn (by omega), lN_i, pk_and _ 8 (by decide)]
    show (BitVec.ofNat 32 _).getLsbD i = _
    rw [BitVec.getLsbD_ofNat, Nat.testBit_mod_two_pow]
    show (decide (i < 32) && (decide (i < 8) && ((BitVec.ofNat 32 (n / 2 ^ (8 * k))).toNat).testBit i)) = _
    rw [BitVec.toNat_ofNat, Nat.testBit_mod_two_pow, Nat.testBit_div_two_pow]
    by_cases q : i < 8
    · simp [q, hi, Nat.add_comm]
    · simp [q]
  rw [hL, hR]
theorem isIn_n {n : Nat} {x : Int32} (h : isInB x 0 (nI n) = true) : ¬ x < 0 ∧ x ≤ nI n := by
  simp only [isInB, Bool.and_eq_true, Bool.not_eq_true', decide_eq_false_iff_not] at h
  exact ⟨h.1, i32_nlt.mp h.2⟩
theorem isIn_p {n : Nat} {x : Int32} (h : isInB x 0 (nI n - 1) = true) (hn : n ≤ 48) : vp_in x 48 := by
  simp only [isInB, Bool.and_eq_true, Bool.not_eq_true', decide_eq_false_iff_not] at h
  rw [vp_in_iff]
  have h1 := h.1
  have h2 := h.2
  rw [Int32.lt_iff_toInt_lt] at h1 h2
  have e0 : (0 : Int32).toInt = 0 := by decide
  rcases Nat.eq_zero_or_pos n with z | z
  · subst z
    have : (nI 0 - 1).toInt = -1 := by decide
    omega
  · obtain ⟨k, rfl⟩ : ∃ k, n = k + 1 := ⟨n - 1, by omega⟩
    rw [nI_pred, nI_toInt (by omega)] at h2
    omega
theorem inB6_in {x : Int32} (h : isInB x 0 5 = true) : vp_in x 6 := by
  simp only [isInB, Bool.and_eq_true, Bool.not_eq_true', decide_eq_false_iff_not] at h
  rw [vp_in_iff]
  have h1 := h.1
  have h2 := h.2
  rw [Int32.lt_iff_toInt_lt] at h1 h2
  have e0 : (0 : Int32).toInt = 0 := by decide
  have e5 : (5 : Int32).toInt = 5 := by decide
  omega
def fTm (x : Int64) (n : Nat) : Int32 := match fdC x 8 0 with
  | none => 1
  | some z => if n + z ≤ 48 then 0 else 2
def swT (y : Int32) : Nat → Nat → Int32
  | 0, _ => 0
  | f + 1, k => if txB (wkm y k) = true then swT y f (k + 1) else 2
def swTm (x y z : Int32) : Int32 := if inB6 x = true then (if isInB z 0 3 = true then swT y z.toNatClampNeg 0 else 2) else 1
def swI (x : Int32) (v : Bool) : Nat := if v = true then 6 + x.toNatClampNeg else x.toNatClampNeg
def zwG (y : Int32) (q w : Nat) : Nat → Nat → (Nat → Int32) → Nat → Int32
  | 0, _, f => f
  | n + 1, k, f => zwG y q w n (k + 1) (upd f (3 * w + k) (wkm y (q - 1 - k)))
theorem swT_02 {y : Int32} : ∀ {f k : Nat}, swT y f k = 0 ∨ swT y f k = 2
  | 0, _ => Or.inl rfl
  | f + 1, k => by
    rw [swT]
    split
    · exact swT_02
    · exact Or.inr rfl
