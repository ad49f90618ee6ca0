/-! THEORY 8: what the reference's table holds -/
section
variable {b : Nat → Int32} {n : Nat} {ec : Int32} {zs : Nat → Nat} {zw : Nat → Int32} {zr zo : Nat → Bool} {zi : Nat → Int32} {mp mz : Nat → Nat} {mm : Nat}
def rAll (zr : Nat → Bool) (PP : Nat → Nat → Nat → Nat → Nat → Prop) (mm m : Nat) (un : Nat → Nat) : Prop := ∀ f t s, m ≤ f → f ≤ t → t ≤ mm → s ≤ 6 → rOk zr PP un f t s
def rRow (zr : Nat → Bool) (PP : Nat → Nat → Nat → Nat → Nat → Prop) (mm f t s : Nat) (un : Nat → Nat) : Prop := rAll zr PP mm (f + 1) un ∧ ∀ t' s', f ≤ t' → t' ≤ mm → s' ≤ 6 → (t' < t ∨ t' = t ∧ s' < s) → rOk zr PP un f t' s'
theorem bP_in (f t s k p : Nat) (h : bP b n ec zs zw zr zo zi mp mz f t s k p) : k < 6 ∧ f < p ∧ p < t := ⟨h.1, h.2.1, h.2.2.1⟩
theorem rRow_put {PP : Nat → Nat → Nat → Nat → Nat → Prop} (hPP : ∀ f t s k p, PP f t s k p → k < 6 ∧ f < p ∧ p < t) (hmm : mm ≤ 48) {f t s v : Nat} {un : Nat → Nat} (ht : t ≤ mm) (hs : s ≤ 6) (h : rRow zr PP mm f t s un) (hv : v ≤ t - f) (hi : f < t → isMn v (1 + un (atN (f + 1) t s)) (PP f t s) (fun k p => prM zr un f p k t s)) : rRow zr PP mm f t (s + 1) (updN un (atN f t s) v) := by
  have hA : AG (f + 1) un (updN un (atN f t s) v) := fun f' t' s' g1 g2 g3 => by rw [updN_at (by omega) hs g2 g3, if_neg (by omega)]
  refine ⟨fun f' t' s' g1 g2 g3 g4 => ?_, fun t' s' g1 g2 g3 g4 => ?_⟩
  · exact rOk_ag hPP (fun f'' t'' s'' k1 k2 k3 => hA f'' t'' s'' (by omega) k2 k3) (hA f' t' s' g1 (by omega) g4) (by omega) g4 (h.1 f' t' s' g1 g2 g3 g4)
  · by_cases e : t' = t ∧ s' = s
    · obtain ⟨rfl, rfl⟩ := e
      have ev : updN un (atN f t' s') v (atN f t' s') = v := if_pos rfl
      refine ⟨by rw [ev]; exact hv, fun hft => ?_⟩
      have h2 := hi hft
      have ev2 : ∀ k p, PP f t' s' k p → prM zr (updN un (atN f t' s') v) f p k t' s' = prM zr un f p k t' s' := by
        intro k p hp
        obtain ⟨k1, k2, k3⟩ := hPP f t' s' k p hp
        rw [prM, prM, hA (f + 1) p k (Nat.le_refl _) (by omega) (by omega), hA (p + 1) t' s' (by omega) (by omega) hs]
      rw [ev, hA (f + 1) t' s' (Nat.le_refl _) (by omega) hs]
      refine ⟨h2.1, fun k p hp => by show _ ≤ prM zr _ f p k t' s'; rw [ev2 k p hp]; exact h2.2.1 k p hp, ?_⟩
      rcases h2.2.2 with z | ⟨k, p, z1, z2⟩
      · exact Or.inl z
      · exact Or.inr ⟨k, p, z1, by show _ = prM zr _ f p k t' s'; rw [ev2 k p z1]; exact z2⟩
    · refine rOk_ag hPP hA (by rw [updN_at (by omega) hs (by omega) g3, if_neg (fun z => e ⟨z.2.1, z.2.2⟩)]) (by omega) g3 (h.2 t' s' g1 g2 g3 ?_)
      rcases g4 with z | ⟨z1, z2⟩
      · exact Or.inl z
      · exact Or.inr ⟨z1, by have : s' ≠ s := fun y => e ⟨z1, y⟩; omega⟩
theorem cnS_ok (hmm : mm ≤ 48) {f t : Nat} (hft : f < t) (ht : t ≤ mm) : ∀ (g s : Nat) (un : Nat → Nat), s + g = 7 → rRow zr (bP b n ec zs zw zr zo zi mp mz) mm f t s un → rRow zr (bP b n ec zs zw zr zo zi mp mz) mm f t 7 (cnS b n ec zs zw zr zo zi mp mz f t g s un)
  | 0, s, un, h1, h => by
    have : s = 7 := by omega
    subst this
    exact h
  | g + 1, s, un, h1, h => by
    rw [cnS]
    refine cnS_ok hmm hft ht g (s + 1) _ (by omega) ?_
    have hb1 := (h.1 (f + 1) t s (Nat.le_refl _) (by omega) ht (by omega)).1
    have hbd : ∀ k p, k < 6 → f < p → p < t → prM zr un f p k t s < 2 ^ 31 := by
      intro k p k1 k2 k3
      have a1 := (h.1 (f + 1) p k (Nat.le_refl _) (by omega) (by omega) (by omega)).1
      have a2 := (h.1 (p + 1) t s (by omega) (by omega) ht (by omega)).1
      rw [prM]
      split <;> omega
    obtain ⟨i1, i2, i3⟩ := cnK_min (b := b) (n := n) (ec := ec) (zs := zs) (zw := zw) (zo := zo) (zi := zi) (mp := mp) (mz := mz) hft hbd 6 0 (1 + un (atN (f + 1) t s)) rfl (by omega)
    refine rRow_put bP_in hmm ht (by omega) h ?_ (fun _ => ⟨i1, fun k p hp => i2 k p (by omega) hp, i3⟩)
    have i1 : cnV b n ec zs zw zr zo zi mp mz un f t s ≤ _ := i1
    omega
theorem cn0_ok (hmm : mm ≤ 48) {f : Nat} (hf : f ≤ mm) : ∀ (g s : Nat) (un : Nat → Nat), s + g = 7 → rRow zr (bP b n ec zs zw zr zo zi mp mz) mm f f s un → rRow zr (bP b n ec zs zw zr zo zi mp mz) mm f f 7 (cn0 f g s un)
  | 0, s, un, h1, h => by
    have : s = 7 := by omega
    subst this
    exact h
  | g + 1, s, un, h1, h => by
    rw [cn0]
    exact cn0_ok hmm hf g (s + 1) _ (by omega) (rRow_put bP_in hmm hf (by omega) h (Nat.zero_le _) (fun z => absurd z (by omega)))
theorem rRow_next {PP : Nat → Nat → Nat → Nat → Nat → Prop} {f t : Nat} {un : Nat → Nat} (h : rRow zr PP mm f t 7 un) : rRow zr PP mm f (t + 1) 0 un := ⟨h.1, fun t' s' g1 g2 g3 g4 => h.2 t' s' g1 g2 g3 (by omega)⟩
theorem cnT_ok (hmm : mm ≤ 48) {f : Nat} : ∀ (g t : Nat) (un : Nat → Nat), t + g = mm + 1 → f < t → rRow zr (bP b n ec zs zw zr zo zi mp mz) mm f t 0 un → rRow zr (bP b n ec zs zw zr zo zi mp mz) mm f (mm + 1) 0 (cnT b n ec zs zw zr zo zi mp mz f g t un)
  | 0, t, un, h1, h2, h => by
    have : t = mm + 1 := by omega
    subst this
    exact h
  | g + 1, t, un, h1, h2, h => by
    rw [cnT]
    exact cnT_ok hmm g (t + 1) _ (by omega) (by omega) (rRow_next (cnS_ok hmm h2 (by omega) 7 0 un rfl h))
theorem cnF_ok (hmm : mm ≤ 48) : ∀ (f : Nat) (un : Nat → Nat), f ≤ mm + 1 → rAll zr (bP b n ec zs zw zr zo zi mp mz) mm f un → rAll zr (bP b n ec zs zw zr zo zi mp mz) mm 0 (cnF b n ec zs zw zr zo zi mp mz mm f un)
  | 0, un, _, h => h
  | f + 1, un, hf, h => by
    rw [cnF]
    refine cnF_ok hmm f _ (by omega) ?_
    have h0 : rRow zr (bP b n ec zs zw zr zo zi mp mz) mm f f 0 un := ⟨h, fun t' s' g1 g2 g3 g4 => absurd g4 (by omega)⟩
    have h1 := cnT_ok (b := b) (n := n) (ec := ec) (zs := zs) (zw := zw) (zr := zr) (zo := zo) (zi := zi) (mp := mp) (mz := mz) hmm (mm - f) (f + 1) _ (by omega) (by omega) (rRow_next (cn0_ok hmm (by omega) 7 0 un rfl h0))
    intro f' t s g1 g2 g3 g4
    by_cases e : f' = f
    · subst e
      exact h1.2 t s g2 g3 g4 (Or.inl (by omega))
    · exact h1.1 f' t s (by omega) g2 g3 g4
theorem count_ok (hmm : mm ≤ 48) (un : Nat → Nat) : rAll zr (bP b n ec zs zw zr zo zi mp mz) mm 0 (cnF b n ec zs zw zr zo zi mp mz mm (mm + 1) un) := cnF_ok hmm (mm + 1) un (Nat.le_refl _) (fun f t s g1 g2 g3 g4 => absurd g2 (by omega))
end
