/-! THEORY 4: a step of the quick reading, in both -/
section
variable {b : Nat → Int32} {n : Nat} {ec : Int32} {ko kc ki : Nat → Int32} {kr ku : Int32} {zs : Nat → Nat} {zw : Nat → Int32} {zr zo : Nat → Bool} {lt : Bool}
/-- the sets of kinds, in both -/
def bRel (kr ku : Int32) (zr zo : Nat → Bool) : Prop := ∀ k, k < 6 → bt kr k = zr k ∧ bt ku k = zo k
theorem alw_bt (hB : bRel kr ku zr zo) {h k : Nat} (hh : h ≤ 6) (hk9 : k < 6) : bt (alw ki kr ku (nI h)) k = (if h = 6 then zo k else !zr h && bt (ki h) k) := by
  rw [alw]
  by_cases e : h = 6
  · subst e
    rw [if_pos (show nI 6 = 6 from rfl), if_pos rfl]
    exact (hB k hk9).2
  · have e2 : ¬ nI h = 6 := fun z => e ((nI_eq (by omega) (by decide)).mp (show nI h = nI 6 from z))
    have h1 : ¬ nI h < 0 := nI_pos (by omega)
    have h2 : ¬ (6 : Int32) ≤ nI h := nI_ge (show h < 6 by omega) (by decide)
    rw [if_neg e2, if_neg e, hk_bt kr (by omega), (hB h (by omega)).1, nI_clamp (by omega), decide_eq_false h1, decide_eq_false h2, Bool.false_or, Bool.false_or]
    cases zr h with
    | true => rw [if_pos rfl, bt_0]; rfl
    | false => rw [if_neg Bool.false_ne_true]; rfl
theorem csB_bt (hB : bRel kr ku zr zo) {h k : Nat} (hh : h ≤ 6) (hk9 : k < 6) : csB zs zr zo ki k h = (cplM zs k && bt (alw ki kr ku (nI h)) k) := by
  rw [csB, alw_bt hB hh hk9, hk_bt _ (by omega)]
/-- the candidates at a place: to close the innermost, to open, to close one around -/
def cC (b : Nat → Int32) (n : Nat) (ec : Int32) (zs : Nat → Nat) (zw : Nat → Int32) (i : IS) (j q : Nat) : Prop := csH i ≠ 6 ∧ sq b n ec zs zw (6 + csH i) j q = true
def oC (b : Nat → Int32) (n : Nat) (ec : Int32) (zs : Nat → Nat) (zw : Nat → Int32) (zr zo : Nat → Bool) (ki : Nat → Int32) (i : IS) (j q k : Nat) : Prop := csB zs zr zo ki k (csH i) = true ∧ sq b n ec zs zw k j q = true
def xC (b : Nat → Int32) (n : Nat) (ec : Int32) (zs : Nat → Nat) (zw : Nat → Int32) (i : IS) (j q r : Nat) : Prop := sq b n ec zs zw (6 + kd i r) j q = true
theorem sq_iff {w j q : Nat} : sq b n ec zs zw w j q = true ↔ zs w = q ∧ stB b n ec zs zw w j = true := by rw [sq, Bool.and_eq_true, decide_eq_true_eq]
theorem sq_1 {w j q : Nat} (h : sq b n ec zs zw w j q = true) : 1 ≤ q := by
  obtain ⟨h1, h2⟩ := sq_iff.mp h
  have := (stB_iff.mp h2).1
  omega
def Sp1 (b : Nat → Int32) (n : Nat) (ec : Int32) (zs : Nat → Nat) (zw : Nat → Int32) (i : IS) (j : Nat) (t : Nat × Nat × Nat) : Prop := (∀ q, t.1 < q → ¬ cC b n ec zs zw i j q) ∧ (t.1 ≠ 0 → t.2.1 = 0 ∧ cC b n ec zs zw i j t.1)
theorem sp1_A {i : IS} {j : Nat} : Sp1 b n ec zs zw i j (spA b n ec zs zw i j) := by
  rw [spA]
  split
  · next c =>
    simp only [Bool.and_eq_true, Bool.not_eq_true', decide_eq_false_iff_not] at c
    refine ⟨fun q hq h => ?_, fun _ => ⟨rfl, c.1, sq_iff.mpr ⟨rfl, c.2⟩⟩⟩
    have hq : zs (6 + csH i) < q := hq
    have := (sq_iff.mp h.2).1
    omega
  · next c =>
    simp only [Bool.and_eq_true, Bool.not_eq_true', decide_eq_false_iff_not, not_and] at c
    exact ⟨fun q _ h => c h.1 (sq_iff.mp h.2).2, fun h => absurd rfl h⟩
def Sp2 (b : Nat → Int32) (n : Nat) (ec : Int32) (zs : Nat → Nat) (zw : Nat → Int32) (zr zo : Nat → Bool) (ki : Nat → Int32) (i : IS) (j m : Nat) (t : Nat × Nat × Nat) : Prop := (∀ q, t.1 < q → ¬ cC b n ec zs zw i j q ∧ ∀ k, k < m → ¬ oC b n ec zs zw zr zo ki i j q k) ∧ (t.1 ≠ 0 → (t.2.1 = 0 ∧ cC b n ec zs zw i j t.1) ∨ (t.2.1 = 1 ∧ ¬ cC b n ec zs zw i j t.1 ∧ t.2.2 < m ∧ oC b n ec zs zw zr zo ki i j t.1 t.2.2 ∧ ∀ k, k < t.2.2 → ¬ oC b n ec zs zw zr zo ki i j t.1 k))
theorem sp2_B {i : IS} {j : Nat} : ∀ (f m : Nat) (t : Nat × Nat × Nat), Sp2 b n ec zs zw zr zo ki i j m t → Sp2 b n ec zs zw zr zo ki i j (m + f) (spB b n ec zs zw zr zo ki (csH i) j f m t)
  | 0, m, t, h => h
  | f + 1, m, t, h => by
    rw [spB, show m + (f + 1) = m + 1 + f by omega]
    refine sp2_B f (m + 1) _ ?_
    split
    · next c =>
      simp only [Bool.and_eq_true, decide_eq_true_eq] at c
      obtain ⟨c1, c2, c3⟩ := c
      refine ⟨fun q hq => ⟨(h.1 q (by have : zs m < q := hq; omega)).1, fun k hk9 g => ?_⟩, fun _ => Or.inr ⟨rfl, (h.1 (zs m) c3).1, by show m < m + 1; omega, ⟨c1, sq_iff.mpr ⟨rfl, c2⟩⟩, fun k hk9 => (h.1 (zs m) c3).2 k hk9⟩⟩
      have hq : zs m < q := hq
      by_cases e : k = m
      · subst e
        have := (sq_iff.mp g.2).1
        omega
      · exact (h.1 q (by omega)).2 k (by omega) g
    · next c =>
      simp only [Bool.and_eq_true, decide_eq_true_eq, not_and] at c
      refine ⟨fun q hq => ⟨(h.1 q hq).1, fun k hk9 g => ?_⟩, fun h0 => ?_⟩
      · by_cases e : k = m
        · subst e
          have g2 := sq_iff.mp g.2
          exact c g.1 g2.2 (by omega)
        · exact (h.1 q hq).2 k (by omega) g
      · rcases h.2 h0 with g | ⟨g1, g2, g3, g4, g5⟩
        · exact Or.inl g
        · exact Or.inr ⟨g1, g2, by omega, g4, g5⟩
def Sp3 (b : Nat → Int32) (n : Nat) (ec : Int32) (zs : Nat → Nat) (zw : Nat → Int32) (zr zo : Nat → Bool) (ki : Nat → Int32) (i : IS) (j m : Nat) (t : Nat × Nat × Nat) : Prop := (∀ q, t.1 < q → ¬ cC b n ec zs zw i j q ∧ (iQ i < 8 → ∀ k, k < 6 → ¬ oC b n ec zs zw zr zo ki i j q k) ∧ ∀ r, m ≤ r → r + 1 < iQ i → ¬ xC b n ec zs zw i j q r) ∧ (t.1 ≠ 0 → (t.2.1 = 0 ∧ cC b n ec zs zw i j t.1) ∨ (t.2.1 = 1 ∧ ¬ cC b n ec zs zw i j t.1 ∧ iQ i < 8 ∧ t.2.2 < 6 ∧ oC b n ec zs zw zr zo ki i j t.1 t.2.2 ∧ ∀ k, k < t.2.2 → ¬ oC b n ec zs zw zr zo ki i j t.1 k) ∨ (t.2.1 = 2 ∧ ¬ cC b n ec zs zw i j t.1 ∧ (iQ i < 8 → ∀ k, k < 6 → ¬ oC b n ec zs zw zr zo ki i j t.1 k) ∧ m ≤ t.2.2 ∧ t.2.2 + 1 < iQ i ∧ xC b n ec zs zw i j t.1 t.2.2 ∧ ∀ r, t.2.2 < r → r + 1 < iQ i → ¬ xC b n ec zs zw i j t.1 r))
theorem sp3_2 {i : IS} {j : Nat} : Sp3 b n ec zs zw zr zo ki i j (iQ i - 1) (sp2 b n ec zs zw zr zo ki i j) := by
  rw [sp2]
  split
  · next c =>
    have h0 : Sp2 b n ec zs zw zr zo ki i j 0 (spA b n ec zs zw i j) := ⟨fun q hq => ⟨sp1_A.1 q hq, fun k hk9 => absurd hk9 (Nat.not_lt_zero k)⟩, fun h => Or.inl (sp1_A.2 h)⟩
    have h := sp2_B 6 0 _ h0
    refine ⟨fun q hq => ⟨(h.1 q hq).1, fun _ => (h.1 q hq).2, fun r h1 h2 => absurd h2 (by omega)⟩, fun g => ?_⟩
    rcases h.2 g with z | ⟨z1, z2, z3, z4⟩
    · exact Or.inl z
    · exact Or.inr (Or.inl ⟨z1, z2, c, z3, z4⟩)
  · next c =>
    refine ⟨fun q hq => ⟨sp1_A.1 q hq, fun z => absurd z c, fun r h1 h2 => absurd h2 (by omega)⟩, fun g => Or.inl (sp1_A.2 g)⟩
theorem sp3_C {i : IS} {j : Nat} : ∀ (f : Nat) (t : Nat × Nat × Nat), f + 1 ≤ iQ i ∨ f = 0 → Sp3 b n ec zs zw zr zo ki i j f t → Sp3 b n ec zs zw zr zo ki i j 0 (spC b n ec zs zw i j f t)
  | 0, t, _, h => h
  | f + 1, t, hf, h => by
    rw [spC]
    refine sp3_C f _ (Or.inl (by omega)) ?_
    split
    · next c =>
      simp only [Bool.and_eq_true, decide_eq_true_eq] at c
      obtain ⟨c1, c2⟩ := c
      have hz := h.1 _ c2
      refine ⟨fun q hq => ?_, fun _ => Or.inr (Or.inr ⟨rfl, hz.1, hz.2.1, Nat.le_refl _, by show f + 1 < iQ i; omega, sq_iff.mpr ⟨rfl, c1⟩, fun r h1 h2 => hz.2.2 r (by have : f < r := h1; omega) h2⟩)⟩
      have hq : zs (6 + kd i f) < q := hq
      have hz2 := h.1 q (by omega)
      refine ⟨hz2.1, hz2.2.1, fun r h1 h2 g => ?_⟩
      by_cases e : r = f
      · subst e
        have := (sq_iff.mp g).1
        omega
      · exact hz2.2.2 r (by omega) h2 g
    · next c =>
      simp only [Bool.and_eq_true, decide_eq_true_eq, not_and] at c
      refine ⟨fun q hq => ⟨(h.1 q hq).1, (h.1 q hq).2.1, fun r h1 h2 g => ?_⟩, fun g => ?_⟩
      · by_cases e : r = f
        · subst e
          have g2 := sq_iff.mp g
          exact c g2.2 (by omega)
        · exact (h.1 q hq).2.2 r (by omega) h2 g
      · rcases h.2 g with z | z | ⟨z1, z2, z3, z4, z5⟩
        · exact Or.inl z
        · exact Or.inr (Or.inl z)
        · exact Or.inr (Or.inr ⟨z1, z2, z3, by omega, z5⟩)
/-- what sp3 chooses -/
theorem sp3_spec {i : IS} {j : Nat} : Sp3 b n ec zs zw zr zo ki i j (if zr (csH i) = true then iQ i - 1 else 0) (sp3 b n ec zs zw zr zo ki i j) := by
  rw [sp3]
  by_cases c : zr (csH i) = true
  · rw [if_pos c, if_pos c]
    exact sp3_2
  · rw [if_neg c, if_neg c]
    exact sp3_C _ _ (by omega) sp3_2
end
