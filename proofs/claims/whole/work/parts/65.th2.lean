/-! THEORY 2: a word that stands at a place, in both ways of keeping words -/
def wRel (ko kc : Nat → Int32) (zs : Nat → Nat) (zw : Nat → Int32) : Prop := (∀ w, zs w ≤ 3) ∧ (∀ w, w < 12 → ∀ k, k < zs w → txB (zw (3 * w + k)) = true) ∧ ∀ k, k < 6 → ko k = pkW zw (zs k) (3 * k) 0 ∧ kc k = pkW zw (zs (6 + k)) (3 * (6 + k)) 0
theorem pkW_congr {f g : Nat → Int32} : ∀ (q i j : Nat) (w : Int32), (∀ k, k < q → f (i + k) = g (j + k)) → pkW f q i w = pkW g q j w
  | 0, _, _, _, _ => rfl
  | q + 1, i, j, w, h => by
    rw [pkW, pkW, show f i = g j from h 0 (by omega), pkW_congr q (i + 1) (j + 1) _ (fun k hk9 => by have := h (k + 1) (by omega); rwa [show i + (k + 1) = i + 1 + k by omega, show j + (k + 1) = j + 1 + k by omega] at this)]
theorem pk_0 {f : Nat → Int32} {q i : Nat} (hq : q ≤ 3) (hf : ∀ k, k < q → txB (f (i + k)) = true) : pkW f q i 0 = 0 ↔ q = 0 := by
  constructor
  · intro h
    exact (pk_inj (g := f) (r := 0) (j := 0) hq (by decide) hf (fun k z => absurd z (Nat.not_lt_zero k)) h).1
  · rintro rfl
    rfl
theorem stG_iff {b : Nat → Int32} {ec : Int32} {zw : Nat → Int32} {w j : Nat} : ∀ (f k : Nat) (v : Bool), stG b ec zw w j f k v = true ↔ v = true ∧ ∀ x, k ≤ x → x < k + f → b (j + x) = zw (3 * w + x) ∧ b (j + x) ≠ ec
  | 0, k, v => by
    rw [stG]
    exact ⟨fun h => ⟨h, fun x h1 h2 => absurd h2 (by omega)⟩, fun h => h.1⟩
  | f + 1, k, v => by
    rw [stG, stG_iff f (k + 1)]
    simp only [Bool.and_eq_true, decide_eq_true_eq, Bool.not_eq_true', decide_eq_false_iff_not]
    constructor
    · rintro ⟨⟨h1, h2⟩, h3⟩
      refine ⟨h1, fun x hx hx2 => ?_⟩
      by_cases e : x = k
      · subst e; exact h2
      · exact h3 x (by omega) (by omega)
    · rintro ⟨h1, h2⟩
      exact ⟨⟨h1, h2 k (by omega) (by omega)⟩, fun x hx hx2 => h2 x (by omega) (by omega)⟩
theorem stB_iff {b : Nat → Int32} {n : Nat} {ec : Int32} {zs : Nat → Nat} {zw : Nat → Int32} {w j : Nat} : stB b n ec zs zw w j = true ↔ zs w ≠ 0 ∧ j + zs w ≤ n ∧ ∀ k, k < zs w → b (j + k) = zw (3 * w + k) ∧ b (j + k) ≠ ec := by
  rw [stB]
  split
  · next c =>
    simp only [Bool.or_eq_true, decide_eq_true_eq, Bool.not_eq_true', decide_eq_false_iff_not] at c
    constructor
    · intro h; cases h
    · rintro ⟨h1, h2, -⟩
      rcases c with c | c
      · exact absurd c h1
      · exact absurd h2 c
  · next c =>
    simp only [Bool.or_eq_true, decide_eq_true_eq, Bool.not_eq_true', decide_eq_false_iff_not, not_or, Classical.not_not] at c
    rw [stG_iff]
    constructor
    · rintro ⟨-, h⟩
      exact ⟨c.1, c.2, fun k hk9 => h k (by omega) (by omega)⟩
    · rintro ⟨-, -, h⟩
      exact ⟨rfl, fun x h1 h2 => h x (by omega)⟩
section
variable {b : Nat → Int32} {n : Nat} {ec : Int32} {ko kc : Nat → Int32} {zs : Nat → Nat} {zw : Nat → Int32}
theorem wM_iff (hW : wRel ko kc zs zw) (htx : ∀ p, p < n → txB (b p) = true) {q w j : Nat} (hq : 1 ≤ q) (hq3 : q ≤ 3) (hw : w < 12) : (pkW zw (zs w) (3 * w) 0 = wAt b n ec j q ∧ zs w ≠ 0) ↔ (zs w = q ∧ stB b n ec zs zw w j = true) := by
  have hzw := hW.2.1 w hw
  have h3 := hW.1 w
  constructor
  · rintro ⟨h, h0⟩
    have hnz : ¬ wAt b n ec j q = 0 := fun z => h0 ((pk_0 h3 hzw).mp (h.trans z))
    rw [wAt] at h hnz
    by_cases hn : q ≤ n - j
    · rw [if_pos hn] at h hnz
      have hne : ∀ k, k < q → b (j + k) ≠ ec := fun k hk9 e => hnz (wgo_0 q j 0 k hk9 e)
      rw [wgo_pk q j 0 hne] at h
      obtain ⟨e1, e2⟩ := pk_inj h3 hq3 hzw (fun k hk9 => htx _ (by omega)) h
      refine ⟨e1, stB_iff.mpr ⟨h0, by omega, fun k hk9 => ⟨(e2 k hk9).symm, hne k (by omega)⟩⟩⟩
    · rw [if_neg hn] at hnz
      exact absurd rfl hnz
  · rintro ⟨rfl, h⟩
    obtain ⟨h0, h1, h2⟩ := stB_iff.mp h
    refine ⟨?_, h0⟩
    rw [wAt, if_pos (by omega), wgo_pk _ _ _ (fun k hk9 => (h2 k hk9).2)]
    exact pkW_congr _ _ _ _ (fun k hk9 => (h2 k hk9).1.symm)
theorem cpl_eq (hW : wRel ko kc zs zw) {k : Nat} (hk9 : k < 6) : cpl ko kc (nI k) = cplM zs k := by
  rw [cpl_nI hk9, cplM]
  have h1 : ko k = 0 ↔ zs k = 0 := by rw [(hW.2.2 k hk9).1]; exact pk_0 (hW.1 _) (hW.2.1 k (by omega))
  have h2 : kc k = 0 ↔ zs (6 + k) = 0 := by rw [(hW.2.2 k hk9).2]; exact pk_0 (hW.1 _) (hW.2.1 (6 + k) (by omega))
  rw [decide_eq_decide.mpr h1, decide_eq_decide.mpr h2]
theorem cplM_t {k : Nat} (h : cplM zs k = true) : zs k ≠ 0 ∧ zs (6 + k) ≠ 0 := by
  simpa [cplM] using h
/-- a kind's word of so many bytes stands there -/
def sq (b : Nat → Int32) (n : Nat) (ec : Int32) (zs : Nat → Nat) (zw : Nat → Int32) (w j q : Nat) : Bool := decide (zs w = q) && stB b n ec zs zw w j
theorem kwo_eq (hW : wRel ko kc zs zw) (htx : ∀ p, p < n → txB (b p) = true) {q k j : Nat} (hq : 1 ≤ q) (hq3 : q ≤ 3) (hk9 : k < 6) : bt (kw ko kc ko (wAt b n ec j q)) k = (cplM zs k && sq b n ec zs zw k j q) := by
  rw [kw_bt (by omega), cpl_eq hW hk9, decide_eq_true hk9, Bool.true_and, Bool.and_comm]
  cases hc : cplM zs k with
  | false => rfl
  | true =>
    rw [Bool.true_and, Bool.true_and, (hW.2.2 k hk9).1]
    have := wM_iff (ec := ec) (j := j) hW htx hq hq3 (show k < 12 by omega)
    have h0 := (cplM_t hc).1
    rw [sq, Bool.eq_iff_iff, Bool.and_eq_true, decide_eq_true_eq, decide_eq_true_eq, ← this]
    exact ⟨fun h => ⟨h, h0⟩, fun h => h.1⟩
theorem kwc_eq (hW : wRel ko kc zs zw) (htx : ∀ p, p < n → txB (b p) = true) {q k j : Nat} (hq : 1 ≤ q) (hq3 : q ≤ 3) (hk9 : k < 6) : bt (kw ko kc kc (wAt b n ec j q)) k = (cplM zs k && sq b n ec zs zw (6 + k) j q) := by
  rw [kw_bt (by omega), cpl_eq hW hk9, decide_eq_true hk9, Bool.true_and, Bool.and_comm]
  cases hc : cplM zs k with
  | false => rfl
  | true =>
    rw [Bool.true_and, Bool.true_and, (hW.2.2 k hk9).2]
    have := wM_iff (ec := ec) (j := j) hW htx hq hq3 (show 6 + k < 12 by omega)
    have h0 := (cplM_t hc).2
    rw [sq, Bool.eq_iff_iff, Bool.and_eq_true, decide_eq_true_eq, decide_eq_true_eq, ← this]
    exact ⟨fun h => ⟨h, h0⟩, fun h => h.1⟩
theorem clb_eq (hW : wRel ko kc zs zw) (htx : ∀ p, p < n → txB (b p) = true) {q k j : Nat} (hq : 1 ≤ q) (hq3 : q ≤ 3) (hk9 : k < 6) : clb ko kc (nI k) (wAt b n ec j q) = (cplM zs k && sq b n ec zs zw (6 + k) j q) := by
  rw [← kwc_eq hW htx hq hq3 hk9, kw_bt (by omega), decide_eq_true hk9, Bool.true_and, Bool.and_comm, clb, nI_clamp (by omega)]
/-- some word of a complete kind, of q bytes, stands there -/
def hasQ (b : Nat → Int32) (n : Nat) (ec : Int32) (zs : Nat → Nat) (zw : Nat → Int32) (j q : Nat) : Prop := ∃ k, k < 6 ∧ cplM zs k = true ∧ (sq b n ec zs zw k j q = true ∨ sq b n ec zs zw (6 + k) j q = true)
theorem hasM_iff (hW : wRel ko kc zs zw) (htx : ∀ p, p < n → txB (b p) = true) {q j : Nat} (hq : 1 ≤ q) (hq3 : q ≤ 3) : hasM ko kc (wAt b n ec j q) = true ↔ hasQ b n ec zs zw j q := by
  rw [hasM, Bool.not_eq_true', decide_eq_false_iff_not, m6_nz (m6_or m6_kw m6_kw)]
  constructor
  · rintro ⟨k, h1, h2⟩
    rw [b_or, kwo_eq hW htx hq hq3 h1, kwc_eq hW htx hq hq3 h1] at h2
    cases hc : cplM zs k with
    | false => rw [hc] at h2; simp at h2
    | true => rw [hc] at h2; exact ⟨k, h1, hc, by simpa using h2⟩
  · rintro ⟨k, h1, h2, h3⟩
    refine ⟨k, h1, ?_⟩
    rw [b_or, kwo_eq hW htx hq hq3 h1, kwc_eq hW htx hq hq3 h1, h2]
    simpa using h3
theorem mlG_max (hW : wRel ko kc zs zw) (htx : ∀ p, p < n → txB (b p) = true) {j : Nat} : ∀ q, q ≤ 3 → (mlG b n ec ko kc j q ≠ 0 → hasQ b n ec zs zw j (mlG b n ec ko kc j q)) ∧ ∀ r, 1 ≤ r → r ≤ q → hasQ b n ec zs zw j r → r ≤ mlG b n ec ko kc j q
  | 0, _ => ⟨fun h => absurd rfl h, fun r h1 h2 _ => absurd h2 (by omega)⟩
  | q + 1, hq => by
    have ih := mlG_max hW htx (j := j) q (by omega)
    rw [mlG]
    split
    · next c =>
      have c := (hasM_iff hW htx (by omega) hq).mp c
      exact ⟨fun _ => c, fun r _ h2 _ => h2⟩
    · next c =>
      refine ⟨ih.1, fun r h1 h2 h3 => ?_⟩
      by_cases e : r = q + 1
      · subst e
        exact absurd ((hasM_iff hW htx (by omega) hq).mpr h3) c
      · exact ih.2 r h1 (by omega) h3
theorem mxx_ge1 {x y : Nat} : x ≤ mxx x y := by rw [mxx]; split <;> omega
theorem mxx_ge2 {x y : Nat} : y ≤ mxx x y := by rw [mxx]; split <;> omega
theorem mxx_or {x y : Nat} : mxx x y = x ∨ mxx x y = y := by
  rw [mxx]
  split
  · exact Or.inr rfl
  · exact Or.inl rfl
theorem mlMG_max {j : Nat} : ∀ (f k L : Nat), k + f = 6 → (L ≠ 0 → hasQ b n ec zs zw j L) → (mlMG b n ec zs zw j f k L ≠ 0 → hasQ b n ec zs zw j (mlMG b n ec zs zw j f k L)) ∧ L ≤ mlMG b n ec zs zw j f k L ∧ ∀ k', k ≤ k' → k' < 6 → cplM zs k' = true → (stB b n ec zs zw k' j = true → zs k' ≤ mlMG b n ec zs zw j f k L) ∧ (stB b n ec zs zw (6 + k') j = true → zs (6 + k') ≤ mlMG b n ec zs zw j f k L)
  | 0, k, L, h, hL => ⟨hL, Nat.le_refl _, fun k' h1 h2 _ => absurd h2 (by omega)⟩
  | f + 1, k, L, h, hL => by
    rw [mlMG]
    have hk6 : k < 6 := by omega
    have h1 : L ≤ mlS b n ec zs zw j k L ∧ (mlS b n ec zs zw j k L ≠ 0 → hasQ b n ec zs zw j (mlS b n ec zs zw j k L)) ∧ (cplM zs k = true → (stB b n ec zs zw k j = true → zs k ≤ mlS b n ec zs zw j k L) ∧ (stB b n ec zs zw (6 + k) j = true → zs (6 + k) ≤ mlS b n ec zs zw j k L)) := by
      rw [mlS]
      split
      · next c =>
        have a1 : L ≤ mlS1 b n ec zs zw j k L ∧ (mlS1 b n ec zs zw j k L ≠ 0 → hasQ b n ec zs zw j (mlS1 b n ec zs zw j k L)) ∧ (stB b n ec zs zw k j = true → zs k ≤ mlS1 b n ec zs zw j k L) := by
          rw [mlS1]
          split
          · next d1 =>
            refine ⟨mxx_ge1, fun h0 => ?_, fun _ => mxx_ge2⟩
            rcases mxx_or (x := L) (y := zs k) with e | e
            · rw [e] at h0 ⊢; exact hL h0
            · rw [e]; exact ⟨k, hk6, c, Or.inl (by simp [sq, d1])⟩
          · next d1 => exact ⟨Nat.le_refl _, hL, fun z => absurd z d1⟩
        generalize mlS1 b n ec zs zw j k L = L1 at a1 ⊢
        split
        · next d2 =>
          refine ⟨Nat.le_trans a1.1 mxx_ge1, fun h0 => ?_, fun _ => ⟨fun z => Nat.le_trans (a1.2.2 z) mxx_ge1, fun _ => mxx_ge2⟩⟩
          rcases mxx_or (x := L1) (y := zs (6 + k)) with e | e
          · rw [e] at h0 ⊢; exact a1.2.1 h0
          · rw [e]; exact ⟨k, hk6, c, Or.inr (by simp [sq, d2])⟩
        · next d2 => exact ⟨a1.1, a1.2.1, fun _ => ⟨a1.2.2, fun z => absurd z d2⟩⟩
      · next c => exact ⟨Nat.le_refl _, hL, fun z => absurd z c⟩
    have ih := mlMG_max (j := j) f (k + 1) (mlS b n ec zs zw j k L) (by omega) h1.2.1
    refine ⟨ih.1, Nat.le_trans h1.1 ih.2.1, fun k' g1 g2 g3 => ?_⟩
    by_cases e : k' = k
    · subst e
      exact ⟨fun z => Nat.le_trans ((h1.2.2 g3).1 z) ih.2.1, fun z => Nat.le_trans ((h1.2.2 g3).2 z) ih.2.1⟩
    · exact ih.2.2 k' (by omega) g2 g3
theorem mlen_eq (hW : wRel ko kc zs zw) (htx : ∀ p, p < n → txB (b p) = true) {j : Nat} : mLen b n ec ko kc j = mlM b n ec zs zw j := by
  have h1 := mlG_max (ec := ec) hW htx (j := j) 3 (by decide)
  have h2 := mlMG_max (b := b) (n := n) (ec := ec) (zs := zs) (zw := zw) (j := j) 6 0 0 rfl (fun h => absurd rfl h)
  have h3 : mlM b n ec zs zw j ≤ 3 := mlMG_le hW.1 6 0 0 (by decide)
  have h4 : ∀ q, hasQ b n ec zs zw j q → q ≤ mlM b n ec zs zw j := by
    rintro q ⟨k, k1, k2, k3⟩
    have := h2.2.2 k (by omega) k1 k2
    rcases k3 with z | z
    · simp only [sq, Bool.and_eq_true, decide_eq_true_eq] at z
      rw [← z.1]; exact this.1 z.2
    · simp only [sq, Bool.and_eq_true, decide_eq_true_eq] at z
      rw [← z.1]; exact this.2 z.2
  have h5 : mLen b n ec ko kc j ≤ mlM b n ec zs zw j := by
    by_cases e : mLen b n ec ko kc j = 0
    · omega
    · exact h4 _ (h1.1 e)
  have h6 : mlM b n ec zs zw j ≤ mLen b n ec ko kc j := by
    by_cases e : mlM b n ec zs zw j = 0
    · omega
    · exact h1.2 _ (by omega) h3 (h2.1 e)
  omega
end
