/-! THEORY 7: the table of the class, a byte a holder -/
theorem l64_m1 : (-1 : Int64).toBitVec = BitVec.allOnes 64 := by decide
theorem nI_l64 : ∀ v, v < 256 → (nI v).toInt64 = lN v := by decide +kernel
theorem byte_kp (x : Int64) {h h' v : Nat} (hh : h ≤ 6) (hh' : h' ≤ 6) (hv : v < 256) : ((x &&& (((255 : Int64) <<< ((nI (8 * h)).toInt64 &&& 63)) ^^^ (-1))) ||| ((nI v).toInt64 <<< ((nI (8 * h)).toInt64 &&& 63))).toBitVec.toNat / 2 ^ (8 * h') % 256 = if h' = h then v else x.toBitVec.toNat / 2 ^ (8 * h') % 256 := by
  rw [nI_l64 v hv, wb_shl v (show 8 * h < 64 by omega), show (255 : Int64) = lN 255 from rfl, wb_shl 255 (show 8 * h < 64 by omega)]
  have hb : ∀ p, p < 64 → ((x &&& ((lN (255 * 2 ^ (8 * h))) ^^^ (-1))) ||| lN (v * 2 ^ (8 * h))).toBitVec.getLsbD p = ((x.toBitVec.getLsbD p && !(decide (8 * h ≤ p) && decide (p < 8 * h + 8))) || (decide (8 * h ≤ p) && v.testBit (p - 8 * h))) := by
    intro p hp
    rw [Int64.toBitVec_or, Int64.toBitVec_and, Int64.toBitVec_xor, l64_m1, BitVec.getLsbD_or, BitVec.getLsbD_and, BitVec.getLsbD_xor, wb_tb, wb_tb, BitVec.getLsbD_ofNat, BitVec.getLsbD_ofNat, BitVec.getLsbD_allOnes, decide_eq_true hp, Nat.mul_comm 255, Nat.mul_comm v, Nat.testBit_two_pow_mul, Nat.testBit_two_pow_mul]
    have h255 : ∀ r, Nat.testBit 255 r = decide (r < 8) := fun r => by rw [show (255 : Nat) = 2 ^ 8 - 1 from rfl, Nat.testBit_two_pow_sub_one]
    rw [h255]
    by_cases c : 8 * h ≤ p
    · have : decide (p - 8 * h < 8) = decide (p < 8 * h + 8) := decide_eq_decide.mpr (by omega)
      rw [this, decide_eq_true c]
      cases decide (p < 8 * h + 8) <;> simp
    · simp [c]
  generalize ((x &&& ((lN (255 * 2 ^ (8 * h))) ^^^ (-1))) ||| lN (v * 2 ^ (8 * h))) = X at hb
  have e256 : (256 : Nat) = 2 ^ 8 := rfl
  apply Nat.eq_of_testBit_eq
  intro r
  rw [e256, Nat.testBit_mod_two_pow, Nat.testBit_div_two_pow]
  have g1 : r < 8 → Nat.testBit X.toBitVec.toNat (8 * h' + r) = ((Nat.testBit x.toBitVec.toNat (8 * h' + r) && !(decide (8 * h ≤ 8 * h' + r) && decide (8 * h' + r < 8 * h + 8))) || (decide (8 * h ≤ 8 * h' + r) && v.testBit (8 * h' + r - 8 * h))) := fun hr => hb (8 * h' + r) (by omega)
  by_cases hr : r < 8
  · rw [decide_eq_true hr, Bool.true_and, Nat.add_comm r, g1 hr]
    by_cases e : h' = h
    · subst e
      rw [if_pos rfl]
      have c1 : 8 * h' ≤ 8 * h' + r := by omega
      have c2 : 8 * h' + r < 8 * h' + 8 := by omega
      simp only [c1, c2, decide_true, Bool.and_true, Bool.not_true, Bool.and_false, Bool.false_or, Bool.true_and, Nat.add_sub_cancel_left]
    · rw [if_neg e, Nat.testBit_mod_two_pow, Nat.testBit_div_two_pow, decide_eq_true hr, Bool.true_and, Nat.add_comm r]
      by_cases c1 : 8 * h ≤ 8 * h' + r
      · have c2 : ¬ 8 * h' + r < 8 * h + 8 := by omega
        have c3 : v.testBit (8 * h' + r - 8 * h) = false := Nat.testBit_lt_two_pow (Nat.lt_of_lt_of_le hv (by rw [e256]; exact Nat.pow_le_pow_right (by decide) (by omega)))
        simp [c1, c2, c3]
      · simp [c1]
  · rw [decide_eq_false hr, Bool.false_and]
    by_cases e : h' = h
    · rw [if_pos e]
      exact (Nat.testBit_lt_two_pow (Nat.lt_of_lt_of_le hv (by rw [e256]; exact Nat.pow_le_pow_right (by decide) (by omega)))).symm
    · rw [if_neg e, Nat.testBit_mod_two_pow, decide_eq_false hr, Bool.false_and]
theorem fN_kp (bs : Nat → Int64) {f t h f' t' h' v : Nat} (ht : t ≤ 48) (ht' : t' ≤ 48) (hh : h ≤ 6) (hh' : h' ≤ 6) (hv : v < 256) : fN (kp bs f t h v) f' t' h' = if f' = f ∧ t' = t ∧ h' = h then v else fN bs f' t' h' := by
  rw [fN, kp, vp_updL]
  by_cases e : f' * 49 + t' = f * 49 + t
  · have e1 : f' = f := by omega
    have e2 : t' = t := by omega
    subst e1
    subst e2
    rw [if_pos rfl, byte_kp _ hh hh' hv]
    by_cases e3 : h' = h
    · rw [if_pos e3, if_pos ⟨rfl, rfl, e3⟩]
    · rw [if_neg e3, if_neg (fun z => e3 z.2.2), fN]
  · rw [if_neg e, if_neg (fun z => e (by rw [z.1, z.2.1])), fN]
/-! a least value: below all candidates, and one of them or the first -/
def isMn (v ini : Nat) (P : Nat → Nat → Prop) (val : Nat → Nat → Nat) : Prop := v ≤ ini ∧ (∀ k p, P k p → v ≤ val k p) ∧ (v = ini ∨ ∃ k p, P k p ∧ v = val k p)
theorem isMn_uniq {v w ini : Nat} {P : Nat → Nat → Prop} {val : Nat → Nat → Nat} (h : isMn v ini P val) (g : isMn w ini P val) : v = w := by
  obtain ⟨h1, h2, h3⟩ := h
  obtain ⟨g1, g2, g3⟩ := g
  have a1 : v ≤ w := by
    rcases g3 with e | ⟨k, p, e1, e2⟩
    · omega
    · rw [e2]; exact h2 k p e1
  have a2 : w ≤ v := by
    rcases h3 with e | ⟨k, p, e1, e2⟩
    · omega
    · rw [e2]; exact g2 k p e1
  omega
theorem mnI_mn {x y : Nat} (hx : x < 2 ^ 31) (hy : y < 2 ^ 31) : mnI x y = mn x y := by
  rw [mnI, mn]
  by_cases h : y < x
  · rw [if_pos ((nI_ltI hy hx).mpr h), if_pos h]
  · rw [if_neg (fun z => h ((nI_ltI hy hx).mp z)), if_neg h]
theorem mn_r {x y : Nat} : mn x y ≤ y := by rw [mn]; split <;> omega
theorem mn_or {x y : Nat} : mn x y = x ∨ (mn x y = y ∧ y < x) := by
  rw [mn]
  split
  · next c => exact Or.inr ⟨rfl, c⟩
  · exact Or.inl rfl
section
variable {b : Nat → Int32} {n : Nat} {ec : Int32} {zs : Nat → Nat} {zw : Nat → Int32} {zr zo : Nat → Bool} {zi : Nat → Int32} {mp mz : Nat → Nat} {mm : Nat}
/-- the pairs that a mark can make -/
def bP (b : Nat → Int32) (n : Nat) (ec : Int32) (zs : Nat → Nat) (zw : Nat → Int32) (zr zo : Nat → Bool) (zi : Nat → Int32) (mp mz : Nat → Nat) (f t s k p : Nat) : Prop := k < 6 ∧ f < p ∧ p < t ∧ cpB b n ec zs zw zr zo zi mp mz f p k s = true
def AG (m : Nat) (un un' : Nat → Nat) : Prop := ∀ f t s, m ≤ f → t ≤ 48 → s ≤ 6 → un' (atN f t s) = un (atN f t s)
/-- what holds of the table from row m on -/
def rOk (zr : Nat → Bool) (PP : Nat → Nat → Nat → Nat → Nat → Prop) (un : Nat → Nat) (f t s : Nat) : Prop := un (atN f t s) ≤ t - f ∧ (f < t → isMn (un (atN f t s)) (1 + un (atN (f + 1) t s)) (PP f t s) (fun k p => prM zr un f p k t s))
theorem atN_inj {f t s f' t' s' : Nat} (ht : t ≤ 48) (hs : s ≤ 6) (ht' : t' ≤ 48) (hs' : s' ≤ 6) (h : atN f t s = atN f' t' s') : f = f' ∧ t = t' ∧ s = s' := by
  rw [atN, atN] at h
  omega
theorem updN_at {un : Nat → Nat} {f t s f' t' s' v : Nat} (ht : t ≤ 48) (hs : s ≤ 6) (ht' : t' ≤ 48) (hs' : s' ≤ 6) : updN un (atN f t s) v (atN f' t' s') = if f' = f ∧ t' = t ∧ s' = s then v else un (atN f' t' s') := by
  rw [updN]
  by_cases e : atN f' t' s' = atN f t s
  · have := atN_inj ht' hs' ht hs e
    rw [if_pos e, if_pos this]
  · rw [if_neg e, if_neg (fun z => e (by rw [z.1, z.2.1, z.2.2]))]
theorem rOk_ag {PP : Nat → Nat → Nat → Nat → Nat → Prop} (hPP : ∀ f t s k p, PP f t s k p → k < 6 ∧ f < p ∧ p < t) {un un' : Nat → Nat} {f t s : Nat} (hA : AG (f + 1) un un') (he : un' (atN f t s) = un (atN f t s)) (ht : t ≤ 48) (hs : s ≤ 6) (h : rOk zr PP un f t s) : rOk zr PP un' f t s := by
  refine ⟨by rw [he]; exact h.1, fun hft => ?_⟩
  have h2 := h.2 hft
  have ev : ∀ k p, PP f t s k p → prM zr un' f p k t s = prM zr un f p k t s := by
    intro k p hp
    obtain ⟨k1, k2, k3⟩ := hPP f t s k p hp
    rw [prM, prM, hA (f + 1) p k (Nat.le_refl _) (by omega) (by omega), hA (p + 1) t s (by omega) ht hs]
  rw [he, hA (f + 1) t s (Nat.le_refl _) ht hs]
  refine ⟨h2.1, fun k p hp => by show _ ≤ prM zr un' f p k t s; rw [ev k p hp]; exact h2.2.1 k p hp, ?_⟩
  rcases h2.2.2 with z | ⟨k, p, z1, z2⟩
  · exact Or.inl z
  · exact Or.inr ⟨k, p, z1, by show _ = prM zr un' f p k t s; rw [ev k p z1]; exact z2⟩
/-- one cell of the reference's table -/
theorem cnP_min {un : Nat → Nat} {f t s k : Nat} (hbd : ∀ p, f < p → p < t → prM zr un f p k t s < 2 ^ 31) : ∀ (g q L : Nat), q + g = t → f < q → L < 2 ^ 31 → cnP b n ec zs zw zr zo zi mp mz un f t s k g q L ≤ L ∧ (∀ p, q ≤ p → p < t → cpB b n ec zs zw zr zo zi mp mz f p k s = true → cnP b n ec zs zw zr zo zi mp mz un f t s k g q L ≤ prM zr un f p k t s) ∧ (cnP b n ec zs zw zr zo zi mp mz un f t s k g q L = L ∨ ∃ p, q ≤ p ∧ p < t ∧ cpB b n ec zs zw zr zo zi mp mz f p k s = true ∧ cnP b n ec zs zw zr zo zi mp mz un f t s k g q L = prM zr un f p k t s)
  | 0, q, L, h1, h2, h3 => ⟨Nat.le_refl _, fun p g1 g2 _ => absurd g2 (by omega), Or.inl rfl⟩
  | g + 1, q, L, h1, h2, h3 => by
    rw [cnP]
    by_cases c : cpB b n ec zs zw zr zo zi mp mz f q k s = true
    · rw [if_pos c, mnI_mn h3 (hbd q h2 (by omega))]
      have hle : mn L (prM zr un f q k t s) ≤ L := mn_le
      obtain ⟨i1, i2, i3⟩ := cnP_min hbd g (q + 1) (mn L (prM zr un f q k t s)) (by omega) (by omega) (by omega)
      refine ⟨Nat.le_trans i1 hle, fun p g1 g2 g3 => ?_, ?_⟩
      · by_cases e : p = q
        · subst e
          exact Nat.le_trans i1 mn_r
        · exact i2 p (by omega) g2 g3
      · rcases i3 with z | ⟨p, p1, p2, p3, p4⟩
        · rcases mn_or (x := L) (y := prM zr un f q k t s) with y | ⟨y, -⟩
          · exact Or.inl (z.trans y)
          · exact Or.inr ⟨q, Nat.le_refl _, by omega, c, z.trans y⟩
        · exact Or.inr ⟨p, by omega, p2, p3, p4⟩
    · rw [if_neg c]
      obtain ⟨i1, i2, i3⟩ := cnP_min hbd g (q + 1) L (by omega) (by omega) h3
      refine ⟨i1, fun p g1 g2 g3 => ?_, ?_⟩
      · by_cases e : p = q
        · subst e
          exact absurd g3 c
        · exact i2 p (by omega) g2 g3
      · rcases i3 with z | ⟨p, p1, p2, p3, p4⟩
        · exact Or.inl z
        · exact Or.inr ⟨p, by omega, p2, p3, p4⟩
theorem cnK_min {un : Nat → Nat} {f t s : Nat} (hft : f < t) (hbd : ∀ k p, k < 6 → f < p → p < t → prM zr un f p k t s < 2 ^ 31) : ∀ (g k L : Nat), k + g = 6 → L < 2 ^ 31 → cnK b n ec zs zw zr zo zi mp mz un f t s g k L ≤ L ∧ (∀ k' p, k ≤ k' → bP b n ec zs zw zr zo zi mp mz f t s k' p → cnK b n ec zs zw zr zo zi mp mz un f t s g k L ≤ prM zr un f p k' t s) ∧ (cnK b n ec zs zw zr zo zi mp mz un f t s g k L = L ∨ ∃ k' p, bP b n ec zs zw zr zo zi mp mz f t s k' p ∧ cnK b n ec zs zw zr zo zi mp mz un f t s g k L = prM zr un f p k' t s)
  | 0, k, L, h1, h3 => ⟨Nat.le_refl _, fun k' p g1 g2 => absurd g2.1 (by omega), Or.inl rfl⟩
  | g + 1, k, L, h1, h3 => by
    rw [cnK]
    obtain ⟨j1, j2, j3⟩ := cnP_min (b := b) (n := n) (ec := ec) (zs := zs) (zw := zw) (zo := zo) (zi := zi) (mp := mp) (mz := mz) (fun p g1 g2 => hbd k p (by omega) g1 g2) (t - (f + 1)) (f + 1) L (by omega) (by omega) h3
    generalize cnP b n ec zs zw zr zo zi mp mz un f t s k (t - (f + 1)) (f + 1) L = L1 at *
    obtain ⟨i1, i2, i3⟩ := cnK_min hft hbd g (k + 1) L1 (by omega) (by omega)
    refine ⟨Nat.le_trans i1 j1, fun k' p g1 g2 => ?_, ?_⟩
    · by_cases e : k' = k
      · subst e
        exact Nat.le_trans i1 (j2 p (by have := g2.2.1; omega) g2.2.2.1 g2.2.2.2)
      · exact i2 k' p (by omega) g2
    · rcases i3 with z | z
      · rcases j3 with y | ⟨p, p1, p2, p3, p4⟩
        · exact Or.inl (z.trans y)
        · exact Or.inr ⟨k, p, ⟨by omega, by omega, p2, p3⟩, z.trans p4⟩
      · exact Or.inr z
end
