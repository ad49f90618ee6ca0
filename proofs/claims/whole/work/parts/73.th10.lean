/-! THEORY 10: the pick of a mark in both -/
def Pick (C : Nat → Nat → Prop) (f t : Nat) : Option (Nat × Nat) → Prop
  | none => ∀ k p, k < 6 → f < p → p < t → ¬ C k p
  | some r => r.1 < 6 ∧ f < r.2 ∧ r.2 < t ∧ C r.1 r.2 ∧ (∀ k p, k < r.1 → f < p → p < t → ¬ C k p) ∧ ∀ p, f < p → p < r.2 → ¬ C r.1 p
theorem Pick_uniq {C : Nat → Nat → Prop} {f t : Nat} {r r' : Option (Nat × Nat)} (h : Pick C f t r) (g : Pick C f t r') : r = r' := by
  cases r with
  | none =>
    cases r' with
    | none => rfl
    | some y => exact absurd g.2.2.2.1 (h y.1 y.2 g.1 g.2.1 g.2.2.1)
  | some x =>
    cases r' with
    | none => exact absurd h.2.2.2.1 (g x.1 x.2 h.1 h.2.1 h.2.2.1)
    | some y =>
      obtain ⟨h1, h2, h3, h4, h5, h6⟩ := h
      obtain ⟨g1, g2, g3, g4, g5, g6⟩ := g
      have e1 : x.1 = y.1 := by
        rcases Nat.lt_trichotomy x.1 y.1 with z | z | z
        · exact absurd h4 (g5 x.1 x.2 z h2 h3)
        · exact z
        · exact absurd g4 (h5 y.1 y.2 z g2 g3)
      have e2 : x.2 = y.2 := by
        rcases Nat.lt_trichotomy x.2 y.2 with z | z | z
        · exact absurd (e1 ▸ h4) (g6 x.2 h2 z)
        · exact z
        · exact absurd (e1.symm ▸ g4) (h6 y.2 g2 z)
      rw [show x = y from Prod.ext e1 e2]
section
variable {b : Nat → Int32} {n : Nat} {ec : Int32} {zs : Nat → Nat} {zw : Nat → Int32} {zr zo : Nat → Bool} {zi : Nat → Int32} {mp mz un : Nat → Nat}
theorem pkG_pick {f t s : Nat} (ht : t ≤ 48) : ∀ (g k q : Nat), k ≤ 6 → f < q → q ≤ f + 48 → (6 - k) * 49 + (f + 1) ≤ g + q → (∀ k' p, k' < k → f < p → p < t → ¬ pkC b n ec zs zw zr zo zi mp mz un f t s k' p = true) → (∀ p, f < p → p < q → p < t → ¬ pkC b n ec zs zw zr zo zi mp mz un f t s k p = true) → Pick (fun k p => pkC b n ec zs zw zr zo zi mp mz un f t s k p = true) f t (if 6 ≤ (pkG b n ec zs zw zr zo zi mp mz un f t s g k q).1 then none else some (pkG b n ec zs zw zr zo zi mp mz un f t s g k q))
  | 0, k, q, h1, h2, h3, h4, h5, h6 => by
    have : k = 6 := by omega
    subst this
    rw [pkG, if_pos (Nat.le_refl _)]
    exact fun k' p g1 g2 g3 => h5 k' p g1 g2 g3
  | g + 1, k, q, h1, h2, h3, h4, h5, h6 => by
    rw [pkG]
    by_cases hk9 : k < 6
    · rw [if_pos hk9]
      by_cases hc : (decide (q < t) && pkC b n ec zs zw zr zo zi mp mz un f t s k q) = true
      · rw [if_pos hc, if_neg (by show ¬ 6 ≤ k; omega)]
        simp only [Bool.and_eq_true, decide_eq_true_eq] at hc
        exact ⟨hk9, h2, hc.1, hc.2, h5, fun p g1 g2 => h6 p g1 g2 (Nat.lt_trans g2 hc.1)⟩
      · rw [if_neg hc]
        simp only [Bool.and_eq_true, decide_eq_true_eq, not_and] at hc
        by_cases hq : q + 1 < t
        · rw [if_pos hq]
          refine pkG_pick ht g k (q + 1) h1 (by omega) (by omega) (by omega) h5 (fun p g1 g2 g3 => ?_)
          by_cases e : p = q
          · subst e; exact hc g3
          · exact h6 p g1 (by omega) g3
        · rw [if_neg hq]
          refine pkG_pick ht g (k + 1) (f + 1) (by omega) (by omega) (by omega) (by omega) (fun k' p g1 g2 g3 => ?_) (fun p g1 g2 => absurd g2 (by omega))
          by_cases e : k' = k
          · subst e
            by_cases e2 : p < q
            · exact h6 p g2 e2 g3
            · have : p = q := by omega
              subst this
              exact hc g3
          · exact h5 k' p (by omega) g2 g3
    · have : k = 6 := by omega
      subst this
      rw [if_neg hk9, if_pos (Nat.le_refl _)]
      exact fun k' p g1 g2 g3 => h5 k' p g1 g2 g3
theorem pkF_pick {f t s : Nat} (ht : t ≤ 48) : Pick (fun k p => pkC b n ec zs zw zr zo zi mp mz un f t s k p = true) f t (if 6 ≤ (pkF b n ec zs zw zr zo zi mp mz un f t s).1 then none else some (pkF b n ec zs zw zr zo zi mp mz un f t s)) :=
  pkG_pick ht 400 0 (f + 1) (by omega) (by omega) (by omega) (by omega) (fun k' p g => absurd g (Nat.not_lt_zero k')) (fun p g1 g2 => absurd g2 (by omega))
end
section
variable {kr : Int32} {mc : Nat → Int32} {bs : Nat → Int64}
def bC (kr : Int32) (mc : Nat → Int32) (bs : Nat → Int64) (f t h : Nat) (od : Int32) (k p : Nat) : Prop := bt od k = true ∧ bt (mc p) k = true ∧ fIn kr bs f p k + fN bs (p + 1) t h = fN bs f t h
theorem bpG_first {f t k h : Nat} (hk9 : k < 6) : ∀ (m q : Nat), (∀ z, bpG kr mc bs f t k h m q = some z → q ≤ z ∧ z < q + m ∧ (bt (mc z) k = true ∧ fIn kr bs f z k + fN bs (z + 1) t h = fN bs f t h) ∧ ∀ p, q ≤ p → p < z → ¬ (bt (mc p) k = true ∧ fIn kr bs f p k + fN bs (p + 1) t h = fN bs f t h)) ∧ (bpG kr mc bs f t k h m q = none → ∀ p, q ≤ p → p < q + m → ¬ (bt (mc p) k = true ∧ fIn kr bs f p k + fN bs (p + 1) t h = fN bs f t h))
  | 0, q => ⟨fun z h => (by cases h), fun _ p g1 g2 => absurd g2 (by omega)⟩
  | m + 1, q => by
    have ih := bpG_first (f := f) (t := t) (h := h) hk9 m (q + 1)
    rw [bpG, hk_bt _ (show k < 32 by omega)]
    by_cases c : (bt (mc q) k && decide (fIn kr bs f q k + fN bs (q + 1) t h = fN bs f t h)) = true
    · rw [if_pos c]
      simp only [Bool.and_eq_true, decide_eq_true_eq] at c
      refine ⟨fun z hz => ?_, fun hz => (by cases hz)⟩
      cases hz
      exact ⟨Nat.le_refl _, by omega, c, fun p g1 g2 => absurd g2 (by omega)⟩
    · rw [if_neg c]
      simp only [Bool.and_eq_true, decide_eq_true_eq] at c
      refine ⟨fun z hz => ?_, fun hz p g1 g2 => ?_⟩
      · obtain ⟨i1, i2, i3, i4⟩ := ih.1 z hz
        refine ⟨by omega, by omega, i3, fun p g1 g2 => ?_⟩
        by_cases e : p = q
        · subst e; exact c
        · exact i4 p (by omega) g2
      · by_cases e : p = q
        · subst e; exact c
        · exact ih.2 hz p (by omega) (by omega)
theorem baG_pick {f t h : Nat} {od : Int32} (hft : f < t) : ∀ (m k : Nat), k + m = 6 → (∀ k' p, k' < k → f < p → p < t → ¬ bC kr mc bs f t h od k' p) → Pick (bC kr mc bs f t h od) f t (baG kr mc bs f t h od m k)
  | 0, k, h1, h2 => fun k' p g1 g2 g3 => h2 k' p (by omega) g2 g3
  | m + 1, k, h1, h2 => by
    rw [baG, hk_bt od (by omega)]
    by_cases c : bt od k = true
    · rw [if_pos c]
      have hb := bpG_first (kr := kr) (mc := mc) (bs := bs) (f := f) (t := t) (h := h) (show k < 6 by omega) (t - (f + 1)) (f + 1)
      have hbp : bp kr mc bs f t k h = bpG kr mc bs f t k h (t - (f + 1)) (f + 1) := rfl
      rw [← hbp] at hb
      cases hz : bp kr mc bs f t k h with
      | some z =>
        obtain ⟨i1, i2, i3, i4⟩ := hb.1 z hz
        exact ⟨by show k < 6; omega, by show f < z; omega, by show z < t; omega, ⟨c, i3⟩, h2, fun p g1 g2 y => i4 p (by omega) g2 y.2⟩
      | none =>
        refine baG_pick hft m (k + 1) (by omega) (fun k' p g1 g2 g3 y => ?_)
        by_cases e : k' = k
        · subst e; exact hb.2 hz p (by omega) (by omega) y.2
        · exact h2 k' p (by omega) g2 g3 y
    · rw [if_neg c]
      refine baG_pick hft m (k + 1) (by omega) (fun k' p g1 g2 g3 y => ?_)
      by_cases e : k' = k
      · subst e; exact c y.1
      · exact h2 k' p (by omega) g2 g3 y
theorem baG_0 {f t h : Nat} : ∀ (m k : Nat), k + m ≤ 6 → baG kr mc bs f t h 0 m k = none
  | 0, _, _ => rfl
  | m + 1, k, hk9 => by
    rw [baG, hk_bt 0 (by omega), bt_0, if_neg Bool.false_ne_true]
    exact baG_0 m (k + 1) (by omega)
end
/-- the picks agree, where the tables do -/
theorem pick_eq {b : Nat → Int32} {n : Nat} {ec : Int32} {zs : Nat → Nat} {zw : Nat → Int32} {zr zo : Nat → Bool} {ki : Nat → Int32} {mp mz un : Nat → Nat} {kr ku : Int32} {mo mc : Nat → Int32} {bs : Nat → Int64} {mm : Nat} (hR : ∀ k, k < 6 → bt kr k = zr k) (hPP : hPb ki mo mc kr ku mm (bP b n ec zs zw zr zo ki mp mz)) (hmm : mm ≤ 48) (hU : rAll zr (bP b n ec zs zw zr zo ki mp mz) mm 0 un) (hD : tDep mc zr un mm bs) {f t h : Nat} (hft : f < t) (ht : t ≤ mm) (hh : h ≤ 6) (hrow : ∀ f', f' ≤ t → fN bs f' t h = un (atN f' t h)) :
    baG kr mc bs f t h (mo f &&& alw ki kr ku (nI h)) 6 0 = if 6 ≤ (pkF b n ec zs zw zr zo ki mp mz un f t h).1 then none else some (pkF b n ec zs zw zr zo ki mp mz un f t h) := by
  have h1 := baG_pick (kr := kr) (mc := mc) (bs := bs) (h := h) (od := mo f &&& alw ki kr ku (nI h)) hft 6 0 rfl (fun k' p g => absurd g (Nat.not_lt_zero k'))
  have h2 := pkF_pick (b := b) (n := n) (ec := ec) (zs := zs) (zw := zw) (zr := zr) (zo := zo) (zi := ki) (mp := mp) (mz := mz) (un := un) (f := f) (t := t) (s := h) (by omega)
  have he : ∀ k p, k < 6 → f < p → p < t → (bC kr mc bs f t h (mo f &&& alw ki kr ku (nI h)) k p ↔ pkC b n ec zs zw zr zo ki mp mz un f t h k p = true) := by
    intro k p k1 k2 k3
    have hb := hPP f t h k p ht hh
    have hcp : cpB b n ec zs zw zr zo ki mp mz f p k h = true ↔ bt (mo f &&& alw ki kr ku (nI h)) k = true ∧ bt (mc p) k = true := by
      constructor
      · intro z
        have := (hb.mp ⟨k1, k2, k3, z⟩).2.2.2
        rw [b_and] at this
        simpa only [Bool.and_eq_true] using this
      · intro z
        exact (hb.mpr ⟨k1, k2, k3, by rw [b_and, z.1, z.2]; rfl⟩).2.2.2
    rw [bC, pkC, Bool.and_eq_true, decide_eq_true_eq, hcp]
    have a1 := (hU f t h (Nat.zero_le _) (by omega) ht hh).1
    have a2 := (hU (p + 1) t h (Nat.zero_le _) (by omega) ht hh).1
    have a3 := (hU (f + 1) p k (Nat.zero_le _) (by omega) (by omega) (by omega)).1
    have a4 : prM zr un f p k t h < 2 ^ 31 := by rw [prM]; split <;> omega
    rw [nI_eq a4 (by omega)]
    constructor
    · rintro ⟨z1, z2, z3⟩
      refine ⟨⟨z1, z2⟩, ?_⟩
      rw [prM, ← hrow (p + 1) (by omega), ← hrow f (by omega), ← z3, fIn, hk_bt kr (by omega), hR k k1]
      cases hz : zr k with
      | true => rw [if_pos rfl, if_pos rfl]
      | false => rw [if_neg Bool.false_ne_true, if_neg Bool.false_ne_true, hD p k (by omega) k1 z2 hz (f + 1) (by omega)]
    · rintro ⟨⟨z1, z2⟩, z3⟩
      refine ⟨z1, z2, ?_⟩
      rw [hrow (p + 1) (by omega), hrow f (by omega), ← z3, prM, fIn, hk_bt kr (by omega), hR k k1]
      cases hz : zr k with
      | true => rw [if_pos rfl, if_pos rfl]
      | false => rw [if_neg Bool.false_ne_true, if_neg Bool.false_ne_true, hD p k (by omega) k1 z2 hz (f + 1) (by omega)]
  refine Pick_uniq h1 ?_
  generalize (if 6 ≤ (pkF b n ec zs zw zr zo ki mp mz un f t h).1 then none else some (pkF b n ec zs zw zr zo ki mp mz un f t h)) = r at h2
  cases r with
  | none => exact fun k p g1 g2 g3 z => h2 k p g1 g2 g3 ((he k p g1 g2 g3).mp z)
  | some y =>
    obtain ⟨g1, g2, g3, g4, g5, g6⟩ := h2
    exact ⟨g1, g2, g3, (he _ _ g1 g2 g3).mpr g4, fun k p z1 z2 z3 w => g5 k p z1 z2 z3 ((he k p (by omega) z2 z3).mp w), fun p z1 z2 w => g6 p z1 z2 ((he _ p g1 z1 (by omega)).mp w)⟩
