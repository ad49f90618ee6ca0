/-! THEORY 14: what holds of the islands of a reading: depth, water, share -/
def WF (n : Nat) (i : IS) : Prop := iM i ≤ 48 ∧ ∃ a e : Nat → Nat,
  (∀ k, k < iM i → iA i k = nI (a k) ∧ iE i k = nI (e k) ∧ a k ≤ e k ∧ e k ≤ n) ∧
  (∀ k, k < iM i → (iP i k = -1 ∧ iD i k = nI 0) ∨ ∃ t, t < k ∧ iP i k = nI t ∧ (∃ w, iD i t = nI w ∧ iD i k = nI (w + 1)) ∧ a t ≤ a k ∧ e k ≤ e t) ∧
  (∀ j k, j < k → k < iM i → iP i j = -1 → iP i k = -1 → e j ≤ a k)
theorem WF_SI {c n : Nat} {i : IS} (h : SI c i) (hc : c ≤ n) (hq : iQ i = 0) : WF n i := by
  obtain ⟨-, h1, a, e, o, h2, h3, h4, h5, -, -⟩ := h
  have hcl : ∀ k, clo (iQ i) o k := fun k r hr => absurd hr (by omega)
  refine ⟨h1, a, e, fun k hk9 => ⟨(h2 k hk9).1, (h3 k hk9 (hcl k)).1, (h3 k hk9 (hcl k)).2.1, Nat.le_trans (h3 k hk9 (hcl k)).2.2 hc⟩, fun k hk9 => ?_, fun j k g1 g2 g3 g4 => (h5 j k g1 g2 g3 g4).2⟩
  rcases h4 k hk9 with z | ⟨t, t1, t2, t3, t4, t5⟩
  · exact Or.inl z
  · exact Or.inr ⟨t, t1, t2, t3, t4, (t5 (hcl t)).2⟩
theorem WF_p {n : Nat} {i : IS} (h : WF n i) : pOk (iP i) (iM i) := by
  obtain ⟨-, a, e, -, h2, -⟩ := h
  intro k hk9
  rcases h2 k hk9 with z | ⟨t, t1, t2, -⟩
  · exact Or.inl z.1
  · exact Or.inr ⟨t, t1, t2⟩
theorem WF_d {n : Nat} {i : IS} (h : WF n i) : ∀ (f k : Nat), k < iM i → k ≤ f → iD i k = nI (dpG (iP i) f (iP i k)) := by
  obtain ⟨hm, a, e, -, h2, -⟩ := h
  intro f
  induction f with
  | zero =>
    intro k hk9 hf
    rcases h2 k hk9 with z | ⟨t, t1, -⟩
    · exact z.2
    · omega
  | succ f ih =>
    intro k hk9 hf
    rcases h2 k hk9 with z | ⟨t, t1, t2, ⟨w, w1, w2⟩, -⟩
    · rw [dpG, if_pos z.1]; exact z.2
    · have h3 := ih t (by omega) (by omega)
      rw [dpG, t2, if_neg (nI_m1 (by omega)), nI_clamp (by omega), ← nI_add, ← h3, w1, w2, ← nI_add]
/-! counting places -/
def cnt (P : Nat → Bool) : Nat → Nat
  | 0 => 0
  | n + 1 => cnt P n + (if P n = true then 1 else 0)
theorem cnt_congr {P Q : Nat → Bool} : ∀ n, (∀ j, j < n → P j = Q j) → cnt P n = cnt Q n
  | 0, _ => rfl
  | n + 1, h => by rw [cnt, cnt, cnt_congr n (fun j hj => h j (by omega)), h n (by omega)]
theorem cnt_not {P : Nat → Bool} : ∀ n, cnt P n + cnt (fun j => !P j) n = n
  | 0 => rfl
  | n + 1 => by
    have := cnt_not (P := P) n
    rw [cnt, cnt]
    cases P n <;> simp <;> omega
theorem cnt_or {P Q : Nat → Bool} : ∀ n, (∀ j, j < n → P j = true → Q j = false) → cnt (fun j => P j || Q j) n = cnt P n + cnt Q n
  | 0, _ => rfl
  | n + 1, h => by
    have ih := cnt_or n (fun j hj => h j (by omega))
    have hn := h n (by omega)
    rw [cnt, cnt, cnt, ih]
    cases hP : P n with
    | true => rw [hn hP]; simp; omega
    | false => cases Q n <;> simp; omega
theorem cnt_f {P : Nat → Bool} : ∀ n, (∀ j, j < n → P j = false) → cnt P n = 0
  | 0, _ => rfl
  | n + 1, h => by rw [cnt, cnt_f n (fun j hj => h j (by omega)), h n (by omega)]; rfl
theorem cnt_iv {a e : Nat} (hae : a ≤ e) : ∀ n, cnt (fun j => decide (a ≤ j) && decide (j < e)) n = min n e - a
  | 0 => by simp [cnt]
  | n + 1 => by
    rw [cnt, cnt_iv hae n]
    by_cases h1 : a ≤ n
    · by_cases h2 : n < e
      · simp [h1, h2]; omega
      · simp [h1, h2]; omega
    · simp [h1]; omega
/-- covered by an island that stands in no other -/
def cv (a e : Nat → Nat) (ip : Nat → Int32) : Nat → Nat → Bool
  | 0, _ => false
  | m + 1, j => cv a e ip m j || (decide (ip m = -1) && (decide (a m ≤ j) && decide (j < e m)))
theorem cv_iff {a e : Nat → Nat} {ip : Nat → Int32} {j : Nat} : ∀ m, cv a e ip m j = true ↔ ∃ k, k < m ∧ ip k = -1 ∧ a k ≤ j ∧ j < e k
  | 0 => by
    constructor
    · intro h; cases h
    · rintro ⟨k, h, -⟩; exact absurd h (Nat.not_lt_zero k)
  | m + 1 => by
    rw [cv, Bool.or_eq_true, cv_iff m]
    simp only [Bool.and_eq_true, decide_eq_true_eq]
    constructor
    · rintro (⟨k, k1, k2⟩ | h)
      · exact ⟨k, by omega, k2⟩
      · exact ⟨m, by omega, h⟩
    · rintro ⟨k, k1, k2⟩
      by_cases ek : k = m
      · subst ek; exact Or.inr k2
      · exact Or.inl ⟨k, by omega, k2⟩
section
variable {n : Nat} {i : IS} {a e : Nat → Nat}
theorem cnt_cv (h1 : ∀ k, k < iM i → iA i k = nI (a k) ∧ iE i k = nI (e k) ∧ a k ≤ e k ∧ e k ≤ n) (h3 : ∀ j k, j < k → k < iM i → iP i j = -1 → iP i k = -1 → e j ≤ a k) {k : Nat} (hk9 : k < iM i) : cnt (cv a e (iP i) (k + 1)) n = cnt (cv a e (iP i) k) n + (if iP i k = -1 then e k - a k else 0) := by
  have g := h1 k hk9
  by_cases ht : iP i k = -1
  · rw [if_pos ht]
    have e1 : cnt (cv a e (iP i) (k + 1)) n = cnt (fun j => cv a e (iP i) k j || (decide (a k ≤ j) && decide (j < e k))) n := cnt_congr n (fun j _ => by rw [cv, decide_eq_true ht, Bool.true_and])
    rw [e1, cnt_or n (fun j _ hc => ?_), cnt_iv g.2.2.1 n, Nat.min_eq_right g.2.2.2]
    obtain ⟨k', k1, k2, k3, k4⟩ := (cv_iff k).mp hc
    have := h3 k' k k1 hk9 k2 ht
    rw [decide_eq_false (by omega), Bool.false_and]
  · rw [if_neg ht]
    exact cnt_congr n (fun j _ => by rw [cv, decide_eq_false ht, Bool.false_and, Bool.or_false])
theorem boc_cnt (h1 : ∀ k, k < iM i → iA i k = nI (a k) ∧ iE i k = nI (e k) ∧ a k ≤ e k ∧ e k ≤ n) (h3 : ∀ j k, j < k → k < iM i → iP i j = -1 → iP i k = -1 → e j ≤ a k) : ∀ (f k : Nat), k + f = iM i → bocG (iP i) (iE i) (iA i) (-1) f k (nI (cnt (cv a e (iP i) k) n)) = nI (cnt (cv a e (iP i) (iM i)) n)
  | 0, k, h => by rw [bocG, show k = iM i by omega]
  | f + 1, k, h => by
    have g := h1 k (by omega)
    have hz : (if iP i k = -1 then nI (cnt (cv a e (iP i) k) n) + (iE i k - iA i k) else nI (cnt (cv a e (iP i) k) n)) = nI (cnt (cv a e (iP i) (k + 1)) n) := by
      rw [cnt_cv h1 h3 (show k < iM i by omega)]
      by_cases ht : iP i k = -1
      · rw [if_pos ht, if_pos ht, g.1, g.2.1, pk_sub g.2.2.1, nI_add]
      · rw [if_neg ht, if_neg ht, Nat.add_zero]
    rw [bocG, hz]
    exact boc_cnt h1 h3 f (k + 1) (by omega)
end
theorem arG_m1 {ia ie : Nat → Int32} {x : Int32} : ∀ (f k : Nat) (z : Int32), k + f ≤ 48 → (arG ia ie x f k z = -1 ↔ z = -1 ∧ ∀ k', k ≤ k' → k' < k + f → (!decide (x < ia k') && !decide (ie k' ≤ x)) = false)
  | 0, k, z, _ => ⟨fun h => ⟨h, fun k' g1 g2 => absurd g2 (by omega)⟩, fun h => h.1⟩
  | f + 1, k, z, hk9 => by
    rw [arG, arG_m1 f (k + 1) _ (by omega)]
    by_cases hc : (!decide (x < ia k) && !decide (ie k ≤ x)) = true
    · rw [if_pos hc]
      constructor
      · rintro ⟨h, -⟩
        exact absurd h (nI_m1 (by omega))
      · rintro ⟨-, h⟩
        have := h k (by omega) (by omega)
        rw [hc] at this
        cases this
    · rw [if_neg hc]
      constructor
      · rintro ⟨h1, h2⟩
        refine ⟨h1, fun k' g1 g2 => ?_⟩
        by_cases ek : k' = k
        · subst ek; exact ts_nt hc
        · exact h2 k' (by omega) (by omega)
      · rintro ⟨h1, h2⟩
        exact ⟨h1, fun k' g1 g2 => h2 k' (by omega) (by omega)⟩
theorem arG_ia {ia ie : Nat → Int32} {x : Int32} : ∀ (f k : Nat), arG ia ie x f k (iaG ia ie x k) = iaG ia ie x (k + f)
  | 0, _ => rfl
  | f + 1, k => by
    rw [arG, show k + (f + 1) = k + 1 + f by omega, ← arG_ia f (k + 1)]
    rfl
theorem otG_cnt {i : IS} : ∀ (f j : Nat), otG i f j (cnt (fun j => decide (arV i (nI j) = -1)) j) = cnt (fun j => decide (arV i (nI j) = -1)) (j + f)
  | 0, _ => rfl
  | f + 1, j => by
    rw [otG, show j + (f + 1) = j + 1 + f by omega, ← otG_cnt f (j + 1)]
    congr 1
    rw [cnt]
    by_cases h : arV i (nI j) = -1
    · rw [if_pos h, decide_eq_true h, if_pos rfl]
    · rw [if_neg h, decide_eq_false h, if_neg Bool.false_ne_true]
      rfl
/-- the bytes of islands that stand in no other, and the bytes in none -/
theorem WF_w {n : Nat} {i : IS} (h : WF n i) (hn : n ≤ 48) : ∃ C, C ≤ n ∧ bocG (iP i) (iE i) (iA i) (-1) (iM i) 0 0 = nI C ∧ otV i n = n - C := by
  obtain ⟨hm, a, e, h1, h2, h3⟩ := h
  refine ⟨cnt (cv a e (iP i) (iM i)) n, ?_, ?_, ?_⟩
  · have := cnt_not (P := cv a e (iP i) (iM i)) n
    omega
  · have := boc_cnt h1 h3 (iM i) 0 (by omega)
    rw [show cnt (cv a e (iP i) 0) n = 0 from cnt_f n (fun j _ => rfl)] at this
    exact this
  · have hot := otG_cnt (i := i) n 0
    rw [Nat.zero_add] at hot
    have hc := cnt_not (P := cv a e (iP i) (iM i)) n
    have hin : ∀ j k, k < iM i → a k ≤ j → j < e k → ∃ k', k' < iM i ∧ iP i k' = -1 ∧ a k' ≤ j ∧ j < e k' := by
      intro j k
      induction k using Nat.strongRecOn with
      | _ k ih =>
        intro hk9 g1 g2
        rcases h2 k hk9 with z | ⟨t, t1, t2, t3, t4, t5⟩
        · exact ⟨k, hk9, z.1, g1, g2⟩
        · exact ih t t1 (by omega) (by omega) (by omega)
    have he : cnt (fun j => decide (arV i (nI j) = -1)) n = cnt (fun j => !cv a e (iP i) (iM i) j) n := by
      refine cnt_congr n (fun j hj => ?_)
      have hv : arV i (nI j) = -1 ↔ ¬ cv a e (iP i) (iM i) j = true := by
        rw [arV, arG_m1 (iM i) 0 (-1) (by omega), cv_iff]
        constructor
        · rintro ⟨-, g⟩ ⟨k, k1, k2, k3, k4⟩
          have := g k (by omega) (by omega)
          obtain ⟨g1, g2, g3, g4⟩ := h1 k k1
          rw [g1, g2, decide_eq_false (fun z => by have := (nI_ltI (by omega) (by omega)).mp z; omega), decide_eq_false (fun z => by have := (nI_leI (by omega) (by omega)).mp z; omega)] at this
          cases this
        · intro g
          refine ⟨rfl, fun k _ k1 => ?_⟩
          obtain ⟨g1, g2, g3, g4⟩ := h1 k (by omega)
          rw [g1, g2]
          refine ts_nt (fun z => ?_)
          simp only [Bool.and_eq_true, Bool.not_eq_true', decide_eq_false_iff_not] at z
          have z1 := z.1
          have z2 := z.2
          rw [nI_ltI (by omega) (by omega)] at z1
          rw [nI_leI (by omega) (by omega)] at z2
          exact g (hin j k (by omega) (by omega) (by omega))
      cases hb : cv a e (iP i) (iM i) j with
      | true => exact decide_eq_false (fun z => hv.mp z hb)
      | false => exact decide_eq_true (hv.mpr (by rw [hb]; exact Bool.false_ne_true))
    rw [otV, show otG i n 0 0 = cnt (fun j => decide (arV i (nI j) = -1)) n from hot, he]
    omega
theorem i32_sa (v z y : Int32) : v - z - y = v - (z + y) := by
  apply Int32.toBitVec_inj.mp
  simp only [Int32.toBitVec_sub, Int32.toBitVec_add]
  bv_omega
theorem ow_boc {ip ie ia : Nat → Int32} {x v : Int32} : ∀ (f k : Nat) (z : Int32), owG ip ie ia x f k (v - z) = v - bocG ip ie ia x f k z
  | 0, _, _ => rfl
  | f + 1, k, z => by
    rw [owG, bocG]
    by_cases h : ip k = x
    · rw [if_pos h, if_pos h, i32_sa]
      exact ow_boc f (k + 1) _
    · rw [if_neg h, if_neg h]
      exact ow_boc f (k + 1) z
set_option maxRecDepth 100000 in
theorem nan_ok : ∀ n, n < 49 → n ≠ 0 → ∀ j, j < 49 → j ≤ n → FP.ddiv (FP.i2d (nI j)) (FP.i2d (nI n)) &&& 0x7fffffffffffffff ≤ 0x7ff0000000000000 := by decide +kernel
