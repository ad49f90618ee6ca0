/-! THEORY 1: bits of kinds, words as numbers -/
theorem b_1 : ∀ i, i < 32 → bt 1 i = decide (i = 0) := by decide +kernel
theorem and1_bt (y : Int32) : (y &&& 1 = 1) ↔ bt y 0 = true := by
  constructor
  · intro h
    have h2 : bt (y &&& 1) 0 = true := by rw [h]; decide +kernel
    rw [b_and] at h2
    simp only [Bool.and_eq_true] at h2
    exact h2.1
  · intro h
    refine b_ext (fun i hi => ?_)
    rw [b_and, b_1 i hi]
    by_cases e : i = 0
    · subst e
      simp [h]
    · simp [e]
theorem hk_bt (q : Int32) {k : Nat} (hk9 : k < 32) : hk q (nI k) = bt q k := by
  rw [hk]
  have h1 : bt (q >>> (nI k &&& 31)) 0 = bt q k := by
    rw [b_sshr k hk9 q (by decide), if_pos (by omega)]
    rfl
  cases hb : bt q k with
  | true => exact decide_eq_true ((and1_bt _).mpr (h1.trans hb))
  | false => exact decide_eq_false (fun h => by
      have := (and1_bt _).mp h
      rw [h1, hb] at this
      cases this)
theorem bt_0 (i : Nat) : bt 0 i = false := b_0 i
theorem bt_z {x : Int32} : x = 0 ↔ ∀ i, i < 32 → bt x i = false := ⟨fun h i _ => by rw [h]; exact bt_0 i, fun h => b_ext (fun i hi => by rw [h i hi, bt_0])⟩
theorem bt_one {k i : Nat} (hk9 : k < 32) (hi : i < 32) : bt ((1 : Int32) <<< (nI k &&& 31)) i = decide (i = k) := by
  rw [b_shl k hk9 1 hi, b_1 _ (by omega)]
  by_cases h1 : k ≤ i
  · by_cases h2 : i = k
    · subst h2; simp
    · simp [h2]; omega
  · simp [h1]; omega
theorem kwG_bt {ko kc f : Nat → Int32} {w : Int32} : ∀ (n k : Nat) (z : Int32) (i : Nat), k + n ≤ 32 → i < 32 → bt (kwG ko kc f w n k z) i = (bt z i || (decide (k ≤ i) && decide (i < k + n) && (decide (f i = w) && cpl ko kc (nI i))))
  | 0, k, z, i, h, hi => by
    have : ¬ (k ≤ i ∧ i < k + 0) := by omega
    rw [kwG]
    by_cases h1 : k ≤ i
    · have h2 : ¬ i < k := by omega
      simp [h1, h2]
    · simp [h1]
  | n + 1, k, z, i, h, hi => by
    rw [kwG, kwG_bt n (k + 1) _ i (by omega) hi]
    by_cases e : i = k
    · subst e
      have h1 : ¬ i + 1 ≤ i := by omega
      have h2 : i < i + (n + 1) := by omega
      simp only [h1, h2, decide_false, decide_true, Bool.false_and, Bool.or_false, Bool.true_and, Nat.le_refl]
      split
      · next c => rw [b_or, bt_one hi hi, c]; simp
      · next c =>
        have c := ts_nt c
        rw [c]; simp
    · have hz : bt (if (decide (f k = w) && cpl ko kc (nI k)) = true then z ||| (1 : Int32) <<< (nI k &&& 31) else z) i = bt z i := by
        split
        · rw [b_or, bt_one (by omega) hi, decide_eq_false e, Bool.or_false]
        · rfl
      rw [hz]
      have h1 : decide (k + 1 ≤ i) = decide (k ≤ i) := decide_eq_decide.mpr (by omega)
      have h2 : decide (i < k + 1 + n) = decide (i < k + (n + 1)) := decide_eq_decide.mpr (by omega)
      rw [h1, h2]
theorem kw_bt {ko kc f : Nat → Int32} {w : Int32} {i : Nat} (hi : i < 32) : bt (kw ko kc f w) i = (decide (i < 6) && (decide (f i = w) && cpl ko kc (nI i))) := by
  rw [kw, kwG_bt 6 0 0 i (by decide) hi, bt_0]
  simp
/-- only the bits of kinds -/
def m6 (x : Int32) : Prop := ∀ i, 6 ≤ i → i < 32 → bt x i = false
theorem m6_kw {ko kc f : Nat → Int32} {w : Int32} : m6 (kw ko kc f w) := fun i h hi => by
  rw [kw_bt hi, decide_eq_false (by omega)]
  rfl
theorem m6_and {x y : Int32} (h : m6 x) : m6 (x &&& y) := fun i h1 h2 => by rw [b_and, h i h1 h2]; rfl
theorem m6_or {x y : Int32} (h : m6 x) (h2 : m6 y) : m6 (x ||| y) := fun i h1 h3 => by rw [b_or, h i h1 h3, h2 i h1 h3]; rfl
theorem m6_z {x : Int32} (h : m6 x) : x = 0 ↔ ∀ k, k < 6 → bt x k = false := by
  rw [bt_z]
  constructor
  · exact fun g k hk9 => g k (by omega)
  · intro g i hi
    rcases Nat.lt_or_ge i 6 with z | z
    · exact g i z
    · exact h i z hi
theorem m6_nz {x : Int32} (h : m6 x) : (¬ x = 0) ↔ ∃ k, k < 6 ∧ bt x k = true := by
  rw [m6_z h]
  constructor
  · intro g
    refine Classical.byContradiction fun c => g (fun k hk9 => ts_nt (fun z => c ⟨k, hk9, z⟩))
  · rintro ⟨k, h1, h2⟩ g
    rw [g k h1] at h2
    cases h2
theorem cpl_nI {ko kc : Nat → Int32} {k : Nat} (hk9 : k < 6) : cpl ko kc (nI k) = (!decide (ko k = 0) && !decide (kc k = 0)) := by
  rw [cpl, nI_clamp (by omega)]
  have h1 : ¬ nI k < 0 := nI_pos (by omega)
  have h2 : ¬ (6 : Int32) ≤ nI k := nI_ge hk9 (by decide)
  simp [h1, h2]
/-! words as numbers -/
def pkW (f : Nat → Int32) : Nat → Nat → Int32 → Int32
  | 0, _, w => w
  | q + 1, i, w => pkW f q (i + 1) ((w <<< ((8 : Int32) &&& 31)) ||| f i)
theorem wgo_pk {b : Nat → Int32} {ec : Int32} : ∀ (q i : Nat) (w : Int32), (∀ k, k < q → b (i + k) ≠ ec) → wgo b ec q i w = pkW b q i w
  | 0, _, _, _ => rfl
  | q + 1, i, w, h => by
    rw [wgo, pkW, if_neg (show ¬ b i = ec from h 0 (by omega)), wgo_pk q (i + 1) _ (fun k hk9 => by have := h (k + 1) (by omega); rwa [show i + 1 + k = i + (k + 1) by omega])]
theorem wgo_0 {b : Nat → Int32} {ec : Int32} : ∀ (q i : Nat) (w : Int32) (k : Nat), k < q → b (i + k) = ec → wgo b ec q i w = 0
  | 0, _, _, k, h, _ => absurd h (Nat.not_lt_zero k)
  | q + 1, i, w, k, h, e => by
    rw [wgo]
    split
    · rfl
    · next c =>
      have hk0 : k ≠ 0 := fun z => c (by rw [z] at e; exact e)
      exact wgo_0 q (i + 1) _ (k - 1) (by omega) (by rw [show i + 1 + (k - 1) = i + k by omega]; exact e)
theorem txB_nat {x : Int32} (h : txB x = true) : ∃ v, 32 ≤ v ∧ v ≤ 126 ∧ x = nI v := by
  simp only [txB, Bool.and_eq_true, Bool.not_eq_true', decide_eq_false_iff_not] at h
  have h1 := h.1
  have h2 := h.2
  obtain ⟨v, hv, rfl⟩ := nI_of (x := x) (by
    rw [Int32.lt_iff_toInt_lt] at h1 ⊢
    have e0 : (0 : Int32).toInt = 0 := by decide
    have e1 : (32 : Int32).toInt = 32 := by decide
    omega)
  rw [Int32.lt_iff_toInt_lt, nI_toInt hv] at h1 h2
  have e1 : (32 : Int32).toInt = 32 := by decide
  have e2 : (126 : Int32).toInt = 126 := by decide
  exact ⟨v, by omega, by omega, rfl⟩
theorem bt_nI {n i : Nat} (hi : i < 32) : bt (nI n) i = n.testBit i := by
  show (BitVec.ofNat 32 n).getLsbD i = _
  rw [BitVec.getLsbD_ofNat, decide_eq_true hi, Bool.true_and]
theorem shl8_or {w x : Nat} (hx : x < 256) : ((nI w <<< ((8 : Int32) &&& 31)) ||| nI x) = nI (w * 256 + x) := by
  have h1 : nI w <<< ((8 : Int32) &&& 31) = nI (2 ^ 8 * w) := b_ext (fun i hi => by
    rw [b_shl8 _ hi, bt_nI hi, Nat.testBit_two_pow_mul]
    by_cases h : 8 ≤ i
    · rw [bt_nI (by omega)]
    · simp [h])
  rw [h1, fa_or_sum w (by omega)]
  congr 1
  omega
/-- what a word of q bytes is as a number -/
def pN (v : Nat → Nat) : Nat → Nat
  | 0 => 0
  | q + 1 => pN v q * 256 + v q
theorem pkW_N {f : Nat → Int32} {v : Nat → Nat} : ∀ (q i z k : Nat), (∀ j, j < q → f (i + j) = nI (v (k + j)) ∧ v (k + j) < 256) → z = pN v k → pkW f q i (nI z) = nI (pN v (k + q))
  | 0, _, _, _, _, e => by rw [e]; rfl
  | q + 1, i, z, k, h, e => by
    have h0 := h 0 (by omega)
    rw [pkW, show f i = nI (v k) from h0.1, shl8_or (by have := h0.2; exact this)]
    rw [pkW_N (v := v) q (i + 1) (z * 256 + v k) (k + 1) (fun j hj => by have := h (j + 1) (by omega); rwa [show i + (j + 1) = i + 1 + j by omega, show k + (j + 1) = k + 1 + j by omega] at this) (by rw [e]; rfl)]
    congr 2
    omega
theorem pN3 {v u : Nat → Nat} {q r : Nat} (hq : q ≤ 3) (hr : r ≤ 3) (hv : ∀ j, j < q → 32 ≤ v j ∧ v j ≤ 126) (hu : ∀ j, j < r → 32 ≤ u j ∧ u j ≤ 126) (h : pN v q = pN u r) : q = r ∧ ∀ j, j < q → v j = u j := by
  have b : ∀ (v : Nat → Nat) (q : Nat), q ≤ 3 → (∀ j, j < q → 32 ≤ v j ∧ v j ≤ 126) → (q = 0 ∧ pN v q = 0) ∨ (q = 1 ∧ pN v q = v 0 ∧ 32 ≤ v 0 ∧ v 0 ≤ 126) ∨ (q = 2 ∧ pN v q = v 0 * 256 + v 1 ∧ 32 ≤ v 0 ∧ v 0 ≤ 126 ∧ 32 ≤ v 1 ∧ v 1 ≤ 126) ∨ (q = 3 ∧ pN v q = (v 0 * 256 + v 1) * 256 + v 2 ∧ 32 ≤ v 0 ∧ v 0 ≤ 126 ∧ 32 ≤ v 1 ∧ v 1 ≤ 126 ∧ 32 ≤ v 2 ∧ v 2 ≤ 126) := by
    intro v q hq hv
    rcases (by omega : q = 0 ∨ q = 1 ∨ q = 2 ∨ q = 3) with rfl | rfl | rfl | rfl
    · exact Or.inl ⟨rfl, rfl⟩
    · have h0 := hv 0 (by omega)
      exact Or.inr (Or.inl ⟨rfl, by simp [pN], h0⟩)
    · have h0 := hv 0 (by omega)
      have h1 := hv 1 (by omega)
      exact Or.inr (Or.inr (Or.inl ⟨rfl, by simp [pN], h0.1, h0.2, h1⟩))
    · have h0 := hv 0 (by omega)
      have h1 := hv 1 (by omega)
      have h2 := hv 2 (by omega)
      exact Or.inr (Or.inr (Or.inr ⟨rfl, by simp [pN], h0.1, h0.2, h1.1, h1.2, h2⟩))
  have hb1 := b v q hq hv
  have hb2 := b u r hr hu
  have hqr : q = r := by omega
  subst hqr
  refine ⟨rfl, fun j hj => ?_⟩
  rcases (by omega : j = 0 ∨ j = 1 ∨ j = 2) with rfl | rfl | rfl <;> omega
theorem pN_lt {v : Nat → Nat} {q : Nat} (hq : q ≤ 3) (hv : ∀ j, j < q → v j ≤ 126) : pN v q < 2 ^ 31 := by
  rcases (by omega : q = 0 ∨ q = 1 ∨ q = 2 ∨ q = 3) with rfl | rfl | rfl | rfl
  · simp [pN]
  · have h0 := hv 0 (by omega); simp [pN]; omega
  · have h0 := hv 0 (by omega); have h1 := hv 1 (by omega); simp [pN]; omega
  · have h0 := hv 0 (by omega); have h1 := hv 1 (by omega); have h2 := hv 2 (by omega); simp [pN]; omega
/-- words differ as numbers -/
theorem pk_inj {f g : Nat → Int32} {q r i j : Nat} (hq : q ≤ 3) (hr : r ≤ 3) (hf : ∀ k, k < q → txB (f (i + k)) = true) (hg : ∀ k, k < r → txB (g (j + k)) = true) (h : pkW f q i 0 = pkW g r j 0) : q = r ∧ ∀ k, k < q → f (i + k) = g (j + k) := by
  have e : ∀ (f : Nat → Int32) (q i : Nat), q ≤ 3 → (∀ k, k < q → txB (f (i + k)) = true) → ∃ v : Nat → Nat, (∀ k, k < q → f (i + k) = nI (v k) ∧ 32 ≤ v k ∧ v k ≤ 126) ∧ pkW f q i 0 = nI (pN v q) := by
    intro f q i hq hf
    have hx : ∀ k, ∃ v, k < q → f (i + k) = nI v ∧ 32 ≤ v ∧ v ≤ 126 := fun k => by
      by_cases hk9 : k < q
      · obtain ⟨v, v1, v2, v3⟩ := txB_nat (hf k hk9)
        exact ⟨v, fun _ => ⟨v3, v1, v2⟩⟩
      · exact ⟨0, fun z => absurd z hk9⟩
    obtain ⟨v, hv⟩ := Classical.axiomOfChoice hx
    refine ⟨v, hv, ?_⟩
    have := pkW_N (f := f) (v := v) q i 0 0 (fun j hj => by
      have := hv j hj
      rw [Nat.zero_add]
      exact ⟨this.1, by omega⟩) rfl
    rw [Nat.zero_add] at this
    exact this
  obtain ⟨v, v1, v2⟩ := e f q i hq hf
  obtain ⟨u, u1, u2⟩ := e g r j hr hg
  rw [v2, u2, nI_eq (pN_lt hq (fun k hk9 => (v1 k hk9).2.2)) (pN_lt hr (fun k hk9 => (u1 k hk9).2.2))] at h
  obtain ⟨h1, h2⟩ := pN3 hq hr (fun k hk9 => (v1 k hk9).2) (fun k hk9 => (u1 k hk9).2) h
  refine ⟨h1, fun k hk9 => ?_⟩
  rw [(v1 k hk9).1, (u1 k (by omega)).1, h2 k hk9]
