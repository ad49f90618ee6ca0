/-! THEORY 3: the marks of both -/
section
variable {b : Nat → Int32} {n : Nat} {ec : Int32} {ko kc : Nat → Int32} {zs : Nat → Nat} {zw : Nat → Int32}
def mRel (b : Nat → Int32) (n : Nat) (ec : Int32) (ko kc : Nat → Int32) (zs : Nat → Nat) (zw : Nat → Int32) (j : Nat) (q : MS) (r : Nat × (Nat → Nat) × (Nat → Nat)) : Prop :=
  q.2.2.2.2 = r.1 ∧ (∀ x, x < r.1 → q.1 x = nI (r.2.1 x) ∧ q.2.1 x = nI (r.2.1 x + r.2.2 x) ∧ q.2.2.1 x = kw ko kc ko (wAt b n ec (r.2.1 x) (r.2.2 x)) ∧ q.2.2.2.1 x = kw ko kc kc (wAt b n ec (r.2.1 x) (r.2.2 x))) ∧ (∀ x, x < r.1 → 1 ≤ r.2.2 x ∧ r.2.2 x ≤ 3 ∧ r.2.1 x + r.2.2 x ≤ j ∧ r.2.1 x + r.2.2 x ≤ n) ∧ ∀ x, x + 1 < r.1 → r.2.1 x + r.2.2 x ≤ r.2.1 (x + 1)
theorem mRel_up {j j' : Nat} {q : MS} {r : Nat × (Nat → Nat) × (Nat → Nat)} (h : mRel b n ec ko kc zs zw j q r) (hj : j ≤ j') : mRel b n ec ko kc zs zw j' q r := ⟨h.1, h.2.1, fun x hx => ⟨(h.2.2.1 x hx).1, (h.2.2.1 x hx).2.1, by have := (h.2.2.1 x hx).2.2.1; omega, (h.2.2.1 x hx).2.2.2⟩, h.2.2.2⟩
theorem hasQ_n {j q : Nat} (h : hasQ b n ec zs zw j q) : j + q ≤ n := by
  obtain ⟨k, -, -, h | h⟩ := h <;>
  · simp only [sq, Bool.and_eq_true, decide_eq_true_eq] at h
    have := (stB_iff.mp h.2).2.1
    omega
theorem mlM_n {j : Nat} (h : mlM b n ec zs zw j ≠ 0) : j + mlM b n ec zs zw j ≤ n := hasQ_n ((mlMG_max (b := b) (n := n) (ec := ec) (zs := zs) (zw := zw) (j := j) 6 0 0 rfl (fun h => absurd rfl h)).1 h)
theorem mRel_push (hW : wRel ko kc zs zw) (htx : ∀ p, p < n → txB (b p) = true) {j : Nat} {q : MS} {r : Nat × (Nat → Nat) × (Nat → Nat)} (h : mRel b n ec ko kc zs zw j q r) : mRel b n ec ko kc zs zw (j + mxx 1 (mlM b n ec zs zw j)) (fmS b n ec ko kc j q) (fmMS b n ec zs zw j r) := by
  rw [fmS, fmMS, mlen_eq hW htx]
  have h3 : mlM b n ec zs zw j ≤ 3 := mlMG_le hW.1 6 0 0 (by decide)
  by_cases e : mlM b n ec zs zw j = 0
  · rw [if_pos e, if_pos e]
    exact mRel_up h (by omega)
  · rw [if_neg e, if_neg e]
    have hn := mlM_n e
    have hx1 : mlM b n ec zs zw j ≤ mxx 1 (mlM b n ec zs zw j) := mxx_ge2
    generalize mlM b n ec zs zw j = L at *
    obtain ⟨h1, h2, h4, h5⟩ := h
    refine ⟨congrArg (· + 1) h1, fun x hx => ?_, fun x hx => ?_, fun x hx => ?_⟩
    · have hx : x < r.1 + 1 := hx
      show upd q.1 q.2.2.2.2 (nI j) x = nI (updN r.2.1 r.1 j x) ∧ upd q.2.1 q.2.2.2.2 (nI (j + L)) x = nI (updN r.2.1 r.1 j x + updN r.2.2 r.1 L x) ∧ upd q.2.2.1 q.2.2.2.2 _ x = kw ko kc ko (wAt b n ec (updN r.2.1 r.1 j x) (updN r.2.2 r.1 L x)) ∧ upd q.2.2.2.1 q.2.2.2.2 _ x = kw ko kc kc (wAt b n ec (updN r.2.1 r.1 j x) (updN r.2.2 r.1 L x))
      rw [h1, updN, updN]
      by_cases hxr : x = r.1
      · subst hxr
        rw [if_pos rfl, if_pos rfl, pk_us, pk_us, pk_us, pk_us]
        exact ⟨rfl, rfl, rfl, rfl⟩
      · rw [if_neg hxr, if_neg hxr, pk_un hxr, pk_un hxr, pk_un hxr, pk_un hxr]
        exact h2 x (by omega)
    · have hx : x < r.1 + 1 := hx
      show 1 ≤ updN r.2.2 r.1 L x ∧ updN r.2.2 r.1 L x ≤ 3 ∧ updN r.2.1 r.1 j x + updN r.2.2 r.1 L x ≤ _ ∧ updN r.2.1 r.1 j x + updN r.2.2 r.1 L x ≤ n
      rw [updN, updN]
      by_cases hxr : x = r.1
      · rw [if_pos hxr, if_pos hxr]
        omega
      · rw [if_neg hxr, if_neg hxr]
        have := h4 x (by omega)
        omega
    · have hx : x + 1 < r.1 + 1 := hx
      show updN r.2.1 r.1 j x + updN r.2.2 r.1 L x ≤ updN r.2.1 r.1 j (x + 1)
      rw [updN, updN, updN, if_neg (by omega : ¬ x = r.1), if_neg (by omega : ¬ x = r.1)]
      by_cases hxr : x + 1 = r.1
      · rw [if_pos hxr]
        have := h4 x (by omega)
        omega
      · rw [if_neg hxr]
        exact h5 x (by omega)
theorem mGo_eq (hW : wRel ko kc zs zw) (htx : ∀ p, p < n → txB (b p) = true) {j : Nat} : mGo b n ec ko kc j = mxx 1 (mlM b n ec zs zw j) := by
  rw [mGo, mlen_eq hW htx]
  by_cases e : mlM b n ec zs zw j = 0
  · rw [if_pos e, e]
    rfl
  · rw [if_neg e, mxx]
    split <;> omega
theorem fm_eq (hW : wRel ko kc zs zw) (htx : ∀ p, p < n → txB (b p) = true) : ∀ (f i nx : Nat) (q : MS) (g : Nat) (r : Nat × (Nat → Nat) × (Nat → Nat)), i + f = n → i ≤ nx → n ≤ nx + g → mRel b n ec ko kc zs zw nx q r → ∃ j, mRel b n ec ko kc zs zw j (fmG b n ec ko kc f i nx q) (fmMG b n ec zs zw g nx r)
  | 0, i, nx, q, g, r, h1, h2, h3, h => by
    have hr : fmMG b n ec zs zw g nx r = r := by
      cases g with
      | zero => rfl
      | succ g => rw [fmMG, if_neg (by omega)]
    rw [hr]
    exact ⟨nx, h⟩
  | f + 1, i, nx, q, g, r, h1, h2, h3, h => by
    rw [fmG]
    by_cases e : i = nx
    · subst e
      rw [if_pos rfl]
      obtain ⟨g, rfl⟩ : ∃ g', g = g' + 1 := ⟨g - 1, by omega⟩
      rw [fmMG, if_pos (show i < n by omega)]
      by_cases he : b i = ec
      · rw [if_pos he, if_pos he]
        exact fm_eq hW htx f (i + 1) (i + 2) q g r (by omega) (by omega) (by omega) (mRel_up h (by omega))
      · rw [if_neg he, if_neg he, mGo_eq hW htx]
        have := mxx_1 (mlM b n ec zs zw i)
        exact fm_eq hW htx f (i + 1) _ _ g _ (by omega) (by omega) (by omega) (mRel_push hW htx h)
    · rw [if_neg e]
      exact fm_eq hW htx f (i + 1) nx q g r (by omega) (by omega) h3 h
theorem fm_rel (hW : wRel ko kc zs zw) (htx : ∀ p, p < n → txB (b p) = true) (mp mb mo mc : Nat → Int32) (r1 r2 : Nat → Nat) : ∃ j, mRel b n ec ko kc zs zw j (fmG b n ec ko kc n 0 0 (mp, mb, mo, mc, 0)) (fmMG b n ec zs zw n 0 (0, r1, r2)) :=
  fm_eq hW htx n 0 0 _ n _ (by omega) (by omega) (by omega) ⟨rfl, fun x hx => absurd hx (Nat.not_lt_zero x), fun x hx => absurd hx (Nat.not_lt_zero x), fun x hx => absurd hx (Nat.not_lt_zero _)⟩
end
