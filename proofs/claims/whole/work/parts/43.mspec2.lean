/-! the reference's quick reading -/
def kOk (i : IS) : Prop := ∀ r, r < iQ i → ∃ k, k < 6 ∧ iK i (iO i r).toNatClampNeg = nI k
def kd (i : IS) (r : Nat) : Nat := (iK i (iO i r).toNatClampNeg).toNatClampNeg
theorem kd_eq {i : IS} (h : kOk i) {r : Nat} (hr : r < iQ i) : kd i r < 6 ∧ iK i (iO i r).toNatClampNeg = nI (kd i r) := by
  obtain ⟨k, k1, k2⟩ := h r hr
  rw [kd, k2, nI_clamp (by omega)]
  exact ⟨k1, rfl⟩
theorem kH_eq {i : IS} (h : kOk i) : csH i ≤ 6 ∧ okd (iK i) (iO i) (iQ i) 0 = nI (csH i) ∧ (0 < iQ i → csH i < 6 ∧ csH i = kd i (iQ i - 1)) ∧ (iQ i = 0 → csH i = 6) := by
  rw [csH]
  by_cases hq : 0 < iQ i
  · have hk := kd_eq h (r := iQ i - 1) (by omega)
    rw [show okd (iK i) (iO i) (iQ i) 0 = nI (kd i (iQ i - 1)) by rw [okd, if_pos (by omega)]; exact hk.2, nI_clamp (by omega)]
    exact ⟨by omega, rfl, fun _ => ⟨hk.1, rfl⟩, fun h => absurd hq (by omega)⟩
  · rw [show okd (iK i) (iO i) (iQ i) 0 = nI 6 by rw [okd, if_neg (by omega)]; rfl, nI_clamp (by decide)]
    exact ⟨Nat.le_refl _, rfl, fun h => absurd h hq, fun _ => rfl⟩
theorem kOk_fn {x y : Int32} {i : IS} (h : kOk i) : kOk (fnI x y i) := fun r hr => h r (Nat.lt_of_lt_of_le hr (Nat.sub_le _ _))
theorem kOk_gu {x y : Int32} : ∀ {n : Nat} {i : IS}, kOk i → kOk (guG x y n i)
  | 0, _, h => h
  | n + 1, i, h => kOk_gu (n := n) (i := fnI x y i) (kOk_fn h)
theorem kOk_bg {k : Nat} {y : Int32} {i : IS} (h : kOk i) (ho : opOk (iO i) (iQ i) (iM i)) (hm : iM i < 48) (hk : k < 6) : kOk (bgJ (nI k) y i) := by
  intro r hr
  have hr : r < iQ i + 1 := hr
  show ∃ k', k' < 6 ∧ upd (iK i) (iM i) (nI k) (upd (iO i) (iQ i) (nI (iM i)) r).toNatClampNeg = nI k'
  by_cases e : r = iQ i
  · subst e
    exact ⟨k, hk, by rw [pk_us, nI_clamp (by omega), pk_us]⟩
  · obtain ⟨t, t1, t2⟩ := ho r (by omega)
    obtain ⟨k', k1, k2⟩ := h r (by omega)
    refine ⟨k', k1, ?_⟩
    rw [pk_un e, pk_un (by rw [t2, nI_clamp (by omega)]; omega)]
    exact k2
theorem iOk_bgJ {x y : Int32} {i : IS} (h : iOk i) (hm : iM i < 48) (hq : iQ i < 48) : iOk (bgJ x y i) := iOk_bg (x := x) (y := y) h hm hq
section
variable (b : Nat → Int32) (n : Nat) (ec : Int32) (zs : Nat → Nat) (zw : Nat → Int32) (zr zo : Nat → Bool) (zi : Nat → Int32)
def spB (h j : Nat) : Nat → Nat → Nat × Nat × Nat → Nat × Nat × Nat
  | 0, _, t => t
  | f + 1, k, t => spB h j f (k + 1) (if (csB zs zr zo zi k h && (stB b n ec zs zw k j && decide (t.1 < zs k))) = true then (zs k, 1, k) else t)
def spC (i : IS) (j : Nat) : Nat → Nat × Nat × Nat → Nat × Nat × Nat
  | 0, t => t
  | f + 1, t => spC i j f (if (stB b n ec zs zw (6 + kd i f) j && decide (t.1 < zs (6 + kd i f))) = true then (zs (6 + kd i f), 2, f) else t)
def spA (i : IS) (j : Nat) : Nat × Nat × Nat := if (!decide (csH i = 6) && stB b n ec zs zw (6 + csH i) j) = true then (zs (6 + csH i), 0, 0) else (0, 0, 0)
def sp2 (i : IS) (j : Nat) : Nat × Nat × Nat := if iQ i < 8 then spB b n ec zs zw zr zo zi (csH i) j 6 0 (spA b n ec zs zw i j) else spA b n ec zs zw i j
def sp3 (i : IS) (j : Nat) : Nat × Nat × Nat := if zr (csH i) = true then sp2 b n ec zs zw zr zo zi i j else spC b n ec zs zw i j (iQ i - 1) (sp2 b n ec zs zw zr zo zi i j)
end
def spX (lt : Bool) (i : IS) (j : Nat) (t : Nat × Nat × Nat) : IS := if t.2.1 = 0 then fnI (nI (j + t.1)) 0 i else if t.2.1 = 1 then bgJ (nI t.2.2) (nI j) i else if lt = true then fnI (nI (j + t.1)) 0 (guG (nI j) 1 (iQ i - (t.2.2 + 1)) i) else lfI i
def stp (lt : Bool) (b : Nat → Int32) (n : Nat) (ec : Int32) (zs : Nat → Nat) (zw : Nat → Int32) (zr zo : Nat → Bool) (zi : Nat → Int32) (i : IS) (j : Nat) : Nat × IS := if b j = ec then (2, i) else if (sp3 b n ec zs zw zr zo zi i j).1 = 0 then (1, i) else ((sp3 b n ec zs zw zr zo zi i j).1, spX lt i j (sp3 b n ec zs zw zr zo zi i j))
/-- what a choice is: none, or of a sort with what that sort wants -/
def spOk (i : IS) (t : Nat × Nat × Nat) : Prop := t.1 ≤ 3 ∧ (t.1 = 0 → t = (0, 0, 0)) ∧ (t.1 ≠ 0 → (t.2.1 = 0 ∧ 0 < iQ i) ∨ (t.2.1 = 1 ∧ iQ i < 8 ∧ t.2.2 < 6) ∨ (t.2.1 = 2 ∧ t.2.2 + 1 < iQ i))
theorem spA_ok {b : Nat → Int32} {n : Nat} {ec : Int32} {zs : Nat → Nat} {zw : Nat → Int32} {i : IS} {j : Nat} (hz : ∀ w, zs w ≤ 3) (hk : kOk i) : spOk i (spA b n ec zs zw i j) := by
  rw [spA]
  split
  · next c =>
    simp only [Bool.and_eq_true, Bool.not_eq_true', decide_eq_false_iff_not] at c
    have hq : 0 < iQ i := by
      rcases Nat.eq_zero_or_pos (iQ i) with q | q
      · exact absurd ((kH_eq hk).2.2.2 q) c.1
      · exact q
    refine ⟨hz _, fun h => ?_, fun _ => Or.inl ⟨rfl, hq⟩⟩
    have h : zs (6 + csH i) = 0 := h
    rw [h]
  · exact ⟨by decide, fun _ => rfl, fun h => absurd rfl h⟩
theorem spB_ok {b : Nat → Int32} {n : Nat} {ec : Int32} {zs : Nat → Nat} {zw : Nat → Int32} {zr zo : Nat → Bool} {zi : Nat → Int32} {i : IS} {h j : Nat} (hz : ∀ w, zs w ≤ 3) (hq : iQ i < 8) : ∀ (f k : Nat) (t : Nat × Nat × Nat), k + f ≤ 6 → spOk i t → spOk i (spB b n ec zs zw zr zo zi h j f k t)
  | 0, _, _, _, ht => ht
  | f + 1, k, t, hk, ht => by
    rw [spB]
    refine spB_ok hz hq f (k + 1) _ (by omega) ?_
    split
    · next c =>
      simp only [Bool.and_eq_true, decide_eq_true_eq] at c
      exact ⟨hz _, fun h => absurd h (by show ¬ zs k = 0; have := c.2.2; omega), fun _ => Or.inr (Or.inl ⟨rfl, hq, by show k < 6; omega⟩)⟩
    · exact ht
theorem spC_ok {b : Nat → Int32} {n : Nat} {ec : Int32} {zs : Nat → Nat} {zw : Nat → Int32} {i : IS} {j : Nat} (hz : ∀ w, zs w ≤ 3) : ∀ (f : Nat) (t : Nat × Nat × Nat), f + 1 ≤ iQ i ∨ f = 0 → spOk i t → spOk i (spC b n ec zs zw i j f t)
  | 0, _, _, ht => ht
  | f + 1, t, hf, ht => by
    rw [spC]
    refine spC_ok hz f _ (Or.inl (by omega)) ?_
    split
    · next c =>
      simp only [Bool.and_eq_true, decide_eq_true_eq] at c
      exact ⟨hz _, fun h => absurd h (by show ¬ zs _ = 0; have := c.2; omega), fun _ => Or.inr (Or.inr ⟨rfl, by show f + 1 < iQ i; omega⟩)⟩
    · exact ht
theorem sp2_ok {b : Nat → Int32} {n : Nat} {ec : Int32} {zs : Nat → Nat} {zw : Nat → Int32} {zr zo : Nat → Bool} {zi : Nat → Int32} {i : IS} {j : Nat} (hz : ∀ w, zs w ≤ 3) (hk : kOk i) : spOk i (sp2 b n ec zs zw zr zo zi i j) := by
  rw [sp2]
  split
  · next c => exact spB_ok hz c 6 0 _ (by decide) (spA_ok hz hk)
  · exact spA_ok hz hk
theorem sp3_ok {b : Nat → Int32} {n : Nat} {ec : Int32} {zs : Nat → Nat} {zw : Nat → Int32} {zr zo : Nat → Bool} {zi : Nat → Int32} {i : IS} {j : Nat} (hz : ∀ w, zs w ≤ 3) (hk : kOk i) : spOk i (sp3 b n ec zs zw zr zo zi i j) := by
  rw [sp3]
  split
  · exact sp2_ok hz hk
  · exact spC_ok hz _ _ (by omega) (sp2_ok hz hk)
def qJ (j : Nat) (i : IS) : Prop := qOk j i ∧ kOk i
theorem stp_ok {lt : Bool} {b : Nat → Int32} {n : Nat} {ec : Int32} {zs : Nat → Nat} {zw : Nat → Int32} {zr zo : Nat → Bool} {zi : Nat → Int32} {i : IS} {j : Nat} (hz : ∀ w, zs w ≤ 3) (h : qJ j i) (hj : j < 48) : qJ (j + 1) (stp lt b n ec zs zw zr zo zi i j).2 ∧ 1 ≤ (stp lt b n ec zs zw zr zo zi i j).1 ∧ (stp lt b n ec zs zw zr zo zi i j).1 ≤ 3 := by
  have hup : qJ (j + 1) i := ⟨qOk_up h.1 (Nat.le_succ _), h.2⟩
  rw [stp]
  split
  · exact ⟨hup, by show 1 ≤ 2; decide, by show 2 ≤ 3; decide⟩
  · split
    · exact ⟨hup, by show 1 ≤ 1; decide, by show 1 ≤ 3; decide⟩
    · next c2 =>
      have ht := sp3_ok (b := b) (n := n) (ec := ec) (zs := zs) (zw := zw) (zr := zr) (zo := zo) (zi := zi) (i := i) (j := j) hz h.2
      generalize sp3 b n ec zs zw zr zo zi i j = t at ht c2
      obtain ⟨L, S, O⟩ := t
      obtain ⟨t1, -, t3⟩ := ht
      refine ⟨?_, by show 1 ≤ L; have : ¬ L = 0 := c2; omega, t1⟩
      show qJ (j + 1) (spX lt i j (L, S, O))
      have hup := hup
      rcases t3 c2 with ⟨s1, s2⟩ | ⟨s1, s2, s3⟩ | ⟨s1, s2⟩
      · have s1 : S = 0 := s1
        subst s1
        exact ⟨qOk_up (qOk_fn h.1) (Nat.le_succ _), kOk_fn h.2⟩
      · have s1 : S = 1 := s1
        subst s1
        have hm : iM i < 48 := Nat.lt_of_le_of_lt h.1.1 hj
        exact ⟨⟨Nat.succ_le_succ h.1.1, s2, (iOk_bgJ (qOk_i h.1 (by omega)) hm (by omega)).2.2⟩, kOk_bg h.2 h.1.2.2 hm s3⟩
      · have s1 : S = 2 := s1
        subst s1
        show qJ (j + 1) (if lt = true then _ else _)
        split
        · exact ⟨qOk_up (qOk_fn (qOk_gu h.1)) (Nat.le_succ _), kOk_fn (kOk_gu h.2)⟩
        · exact ⟨qOk_up (show qOk j (lfI i) from h.1) (Nat.le_succ _), h.2⟩
def mqG (lt : Bool) (b : Nat → Int32) (n : Nat) (ec : Int32) (zs : Nat → Nat) (zw : Nat → Int32) (zr zo : Nat → Bool) (zi : Nat → Int32) : Nat → Nat → IS → IS
  | 0, _, i => i
  | f + 1, j, i => if j < n then mqG lt b n ec zs zw zr zo zi f (j + (stp lt b n ec zs zw zr zo zi i j).1) (stp lt b n ec zs zw zr zo zi i j).2 else i
