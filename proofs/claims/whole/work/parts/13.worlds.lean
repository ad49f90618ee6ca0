/-! THE WORLDS: Text, Kinds, Islands, Marks, BestReader, the parser; bI: a boolean as the machine has it -/
def bI (b : Bool) : Int32 := if b then 1 else 0
theorem bI0 {b : Bool} (h : bI b = 0) : b = false := by cases b with
  | false => rfl
  | true => exact absurd h (by decide)
theorem bI1 {b : Bool} (h : ¬ bI b = 0) : b = true := by cases b with
  | false => exact absurd rfl h
  | true => rfl
theorem bI_nar (b : Bool) : narrow .boolean (.int (bI b)) = .int (bI b) := by cases b <;> rfl
theorem bI_fit (b : Bool) : fits .boolean (.int (bI b)) = true := by cases b <;> rfl
theorem bI_t {b : Bool} (h : b = true) : (1 : Int32) = bI b := by rw [h]; rfl
theorem bI_f {b : Bool} (h : b = false) : (0 : Int32) = bI b := by rw [h]; rfl
abbrev TS : Type := (Nat → Int32) × Nat × Int32
abbrev KS : Type := (Nat → Int32) × (Nat → Int32) × (Nat → Int32) × Int32 × Int32
abbrev IS : Type := (Nat → Int32) × (Nat → Int32) × (Nat → Int32) × (Nat → Int32) × (Nat → Int32) × (Nat → Int32) × (Nat → Int32) × Nat × Nat × Nat × Bool
abbrev MS : Type := (Nat → Int32) × (Nat → Int32) × (Nat → Int32) × (Nat → Int32) × Nat
abbrev BS : Type := (Nat → Int64) × (Nat → Int32)
def wT (tc : Nat → ClassId) (a : Nat → Nat) (b : Nat → Int32) (n : Nat) (ec : Int32) : va_W := [(a 0, .inr (4, [.ref (a 1), .int (nI n), .int ec])), (a 1, .inl (tc 0, 48, .inl b))]
def wK (tc : Nat → ClassId) (a : Nat → Nat) (ko kc ki : Nat → Int32) (kr ku : Int32) : va_W := [(a 0, .inr (2, [.ref (a 1), .ref (a 2), .ref (a 3), .int kr, .int ku])), (a 1, .inl (tc 0, 6, .inl ko)), (a 2, .inl (tc 0, 6, .inl kc)), (a 3, .inl (tc 0, 6, .inl ki))]
def wI (tc : Nat → ClassId) (a : Nat → Nat) (ik ia ie it ip id io : Nat → Int32) (im iq il : Nat) (ir : Bool) : va_W := [(a 0, .inr (1, [.ref (a 1), .ref (a 2), .ref (a 3), .ref (a 4), .ref (a 5), .ref (a 6), .ref (a 7), .int (nI im), .int (nI iq), .int (nI il), .int (bI ir)])), (a 1, .inl (tc 0, 48, .inl ik)), (a 2, .inl (tc 0, 48, .inl ia)), (a 3, .inl (tc 0, 48, .inl ie)), (a 4, .inl (tc 0, 48, .inl it)), (a 5, .inl (tc 0, 48, .inl ip)), (a 6, .inl (tc 0, 48, .inl id)), (a 7, .inl (tc 0, 48, .inl io))]
def wM (tc : Nat → ClassId) (a : Nat → Nat) (mp mb mo mc : Nat → Int32) (mm : Nat) : va_W := [(a 0, .inr (3, [.ref (a 1), .ref (a 2), .ref (a 3), .ref (a 4), .int (nI mm)])), (a 1, .inl (tc 0, 48, .inl mp)), (a 2, .inl (tc 0, 48, .inl mb)), (a 3, .inl (tc 0, 48, .inl mo)), (a 4, .inl (tc 0, 48, .inl mc))]
def wB (tc : Nat → ClassId) (a : Nat → Nat) (bs : Nat → Int64) (bc : Nat → Int32) : va_W := [(a 0, .inr (0, [.ref (a 1), .ref (a 2)])), (a 1, .inl (tc 1, 2401, .inr (.inl bs))), (a 2, .inl (tc 0, 48, .inl bc))]
def wO (a0 : Nat) (aT aK aI aM aB : Nat → Nat) (lt : Bool) : va_W := [(a0, .inr (5, [.ref (aT 0), .ref (aK 0), .ref (aI 0), .ref (aM 0), .ref (aB 0), .int (bI lt)]))]
/-- what the text answers -/
def hasP (n : Nat) (x : Int32) : Bool := !decide (x < 0) && !decide (nI n ≤ x)
def isEs (b : Nat → Int32) (n : Nat) (ec : Int32) (x : Int32) : Bool := hasP n x && decide (b x.toNatClampNeg = ec)
theorem i32_nlt {x y : Int32} : ¬ x < y ↔ y ≤ x := by rw [Int32.lt_iff_toInt_lt, Int32.le_iff_toInt_le]; omega
theorem i32_nle {x y : Int32} : ¬ x ≤ y ↔ y < x := by rw [Int32.lt_iff_toInt_lt, Int32.le_iff_toInt_le]; omega
theorem hasP_in {n : Nat} {x : Int32} (h : hasP n x = true) (hn : n ≤ 48) : vp_in x 48 := by
  simp only [hasP, Bool.and_eq_true, Bool.not_eq_true', decide_eq_false_iff_not] at h
  rw [vp_in_iff]
  have h1 := h.1
  have h2 := h.2
  rw [Int32.lt_iff_toInt_lt] at h1
  rw [Int32.le_iff_toInt_le, nI_toInt (by omega)] at h2
  have : (0 : Int32).toInt = 0 := by decide
  omega
theorem hasP_nI {n j : Nat} (hj : j < 2 ^ 31) (hn : n < 2 ^ 31) : hasP n (nI j) = decide (j < n) := by
  simp only [hasP, nI_pos hj, decide_false, Bool.not_false, Bool.true_and, nI_leI hn hj]
  by_cases h : j < n
  · simp [h]
  · simp [h]; omega
theorem isEs_nI {b : Nat → Int32} {n j : Nat} {ec : Int32} (hj : j < n) (hn : n ≤ 48) : isEs b n ec (nI j) = decide (b j = ec) := by
  rw [isEs, hasP_nI (by omega) (by omega), nI_clamp (by omega)]
  simp [hj]
/-- bytes put into one number, from place i on -/
def wgo (b : Nat → Int32) (ec : Int32) : Nat → Nat → Int32 → Int32
  | 0, _, w => w
  | n + 1, i, w => if b i = ec then 0 else wgo b ec n (i + 1) ((w <<< ((8 : Int32) &&& 31)) ||| b i)
def wAt (b : Nat → Int32) (n : Nat) (ec : Int32) (i k : Nat) : Int32 := if k ≤ n - i then wgo b ec k i 0 else 0
/-- what the kinds answer -/
def hk (q x : Int32) : Bool := decide ((q >>> (x &&& 31)) &&& 1 = 1)
def cpl (ko kc : Nat → Int32) (x : Int32) : Bool := !decide (x < 0) && (!decide (6 ≤ x) && (!decide (ko x.toNatClampNeg = 0) && !decide (kc x.toNatClampNeg = 0)))
def clb (ko kc : Nat → Int32) (x w : Int32) : Bool := cpl ko kc x && decide (kc x.toNatClampNeg = w)
def kwG (ko kc f : Nat → Int32) (w : Int32) : Nat → Nat → Int32 → Int32
  | 0, _, z => z
  | n + 1, k, z => kwG ko kc f w n (k + 1) (if (decide (f k = w) && cpl ko kc (nI k)) = true then z ||| ((1 : Int32) <<< (nI k &&& 31)) else z)
def kw (ko kc f : Nat → Int32) (w : Int32) : Int32 := kwG ko kc f w 6 0 0
def alw (ki : Nat → Int32) (kr ku x : Int32) : Int32 := if x = 6 then ku else if (decide (x < 0) || (decide (6 ≤ x) || hk kr x)) = true then 0 else ki x.toNatClampNeg
theorem in_lt {x : Int32} {N : Nat} (h0 : ¬ x < 0) (h : ¬ nI N ≤ x) (hN : N < 2 ^ 31) : vp_in x N := by
  rw [vp_in_iff]
  rw [Int32.lt_iff_toInt_lt] at h0
  rw [Int32.le_iff_toInt_le, nI_toInt hN] at h
  have : (0 : Int32).toInt = 0 := by decide
  omega
theorem in6 {x : Int32} (h0 : ¬ x < 0) (h : ¬ 6 ≤ x) : vp_in x 6 := in_lt h0 h (by decide)
theorem cpl_in {ko kc : Nat → Int32} {x : Int32} (h : cpl ko kc x = true) : vp_in x 6 := by
  simp only [cpl, Bool.and_eq_true, Bool.not_eq_true', decide_eq_false_iff_not] at h
  exact in6 h.1 h.2.1
/-- what the islands answer -/
def opI (io : Nat → Int32) (iq j : Nat) : Int32 := if j + 1 ≤ iq then io (iq - 1 - j) else -1
def okd (ik io : Nat → Int32) (iq j : Nat) : Int32 := if j + 1 ≤ iq then ik (io (iq - 1 - j)).toNatClampNeg else 6
def bocG (ip ie ia : Nat → Int32) (x : Int32) : Nat → Nat → Int32 → Int32
  | 0, _, z => z
  | n + 1, k, z => bocG ip ie ia x n (k + 1) (if ip k = x then z + (ie k - ia k) else z)
def iaG (ia ie : Nat → Int32) (x : Int32) : Nat → Int32
  | 0 => -1
  | n + 1 => if (!decide (x < ia n) && !decide (ie n ≤ x)) = true then nI n else iaG ia ie x n
/-- the open islands are islands -/
def opOk (io : Nat → Int32) (iq im : Nat) : Prop := ∀ r, r < iq → ∃ t, t < im ∧ io r = nI t
theorem i32_ss (x y : Int32) : x - 1 - y = x - (y + 1) := by
  apply Int32.toBitVec_inj.mp
  simp only [Int32.toBitVec_sub, Int32.toBitVec_add]
  bv_omega
theorem i32_m1 (x : Int32) : x + Int32.ofInt (-1) = x - 1 := by
  apply Int32.toBitVec_inj.mp
  simp only [Int32.toBitVec_sub, Int32.toBitVec_add]
  have : (Int32.ofInt (-1)).toBitVec = 4294967295#32 := by decide
  rw [this]
  have : (1 : Int32).toBitVec = 1#32 := by decide
  rw [this]
  bv_omega
theorem opI_row {iq j : Nat} (h : j + 1 ≤ iq) : nI iq - 1 - nI j = nI (iq - 1 - j) := by
  rw [i32_ss, ← nI_succ, pk_sub h, show iq - (j + 1) = iq - 1 - j by omega]
theorem opI_neg {iq j : Nat} (h : ¬ j + 1 ≤ iq) (hj : j < 1000) : nI iq - 1 - nI j < 0 := by
  rw [i32_ss, ← nI_succ]
  exact pk_sneg (by omega) (by omega)
theorem nI_m1 {j : Nat} (hj : j < 2 ^ 31) : ¬ nI j = -1 := by
  intro h
  have := congrArg Int32.toInt h
  rw [nI_toInt hj] at this
  have e : (-1 : Int32).toInt = -1 := by decide
  omega
