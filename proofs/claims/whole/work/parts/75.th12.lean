/-! THEORY 12: both best readings give the same islands -/
section
variable {b : Nat → Int32} {n : Nat} {ec : Int32} {ko kc ki : Nat → Int32} {kr ku : Int32} {zs : Nat → Nat} {zw : Nat → Int32} {zr zo : Nat → Bool}
theorem mRel_x {j : Nat} {q : MS} {r : Nat × (Nat → Nat) × (Nat → Nat)} (h : mRel b n ec ko kc zs zw j q r) : ∀ x, x < r.1 → x ≤ r.2.1 x
  | 0, _ => Nat.zero_le _
  | x + 1, hx => by
    have h1 := mRel_x h x (by omega)
    have h2 := h.2.2.2 x hx
    have h3 := (h.2.2.1 x (by omega)).1
    omega
theorem mRel_n {j : Nat} {q : MS} {r : Nat × (Nat → Nat) × (Nat → Nat)} (h : mRel b n ec ko kc zs zw j q r) : r.1 ≤ n := by
  rcases Nat.eq_zero_or_pos r.1 with z | z
  · omega
  · have h1 := mRel_x h (r.1 - 1) (by omega)
    have h2 := h.2.2.1 (r.1 - 1) (by omega)
    omega
theorem hPb_of (hW : wRel ko kc zs zw) (htx : ∀ p, p < n → txB (b p) = true) (hB : bRel kr ku zr zo) {j : Nat} {q : MS} {r : Nat × (Nat → Nat) × (Nat → Nat)} (h : mRel b n ec ko kc zs zw j q r) : hPb ki q.2.2.1 q.2.2.2.1 kr ku r.1 (bP b n ec zs zw zr zo ki r.2.1 r.2.2) := by
  intro f t s k p ht hs
  rw [bP]
  constructor
  · rintro ⟨h1, h2, h3, h4⟩
    refine ⟨h1, h2, h3, ?_⟩
    have m1 := h.2.1 f (by omega)
    have m2 := h.2.1 p (by omega)
    have l1 := h.2.2.1 f (by omega)
    have l2 := h.2.2.1 p (by omega)
    rw [m1.2.2.1, m2.2.2.2, b_and, b_and, kwo_eq hW htx l1.1 l1.2.1 h1, kwc_eq hW htx l2.1 l2.2.1 h1, sq, sq]
    rw [cpB, csB_bt hB hs h1, iwB, iwB] at h4
    simp only [Bool.and_eq_true] at h4 ⊢
    exact ⟨⟨⟨h4.1.1, h4.2.1.2, h4.2.1.1⟩, h4.1.2⟩, h4.1.1, h4.2.2.2, h4.2.2.1⟩
  · rintro ⟨h1, h2, h3, h4⟩
    refine ⟨h1, h2, h3, ?_⟩
    have m1 := h.2.1 f (by omega)
    have m2 := h.2.1 p (by omega)
    have l1 := h.2.2.1 f (by omega)
    have l2 := h.2.2.1 p (by omega)
    rw [m1.2.2.1, m2.2.2.2, b_and, b_and, kwo_eq hW htx l1.1 l1.2.1 h1, kwc_eq hW htx l2.1 l2.2.1 h1, sq, sq] at h4
    rw [cpB, csB_bt hB hs h1, iwB, iwB]
    simp only [Bool.and_eq_true] at h4 ⊢
    exact ⟨⟨h4.1.1.1, h4.1.2⟩, ⟨h4.1.1.2.2, h4.1.1.2.1⟩, h4.2.2.2, h4.2.2.1⟩
theorem best_eq (hW : wRel ko kc zs zw) (htx : ∀ p, p < n → txB (b p) = true) (hB : bRel kr ku zr zo) (hn : n ≤ 48) {j9 : Nat} {M : MS} {r : Nat × (Nat → Nat) × (Nat → Nat)} (h : mRel b n ec ko kc zs zw j9 M r) {u0 un : Nat → Nat} (hun : un = cnF b n ec zs zw zr zo ki r.2.1 r.2.2 r.1 (r.1 + 1) u0) {b0 bs : Nat → Int64} (hbs : bs = fsAll ki kr ku M.2.2.1 M.2.2.2.1 M.2.2.2.2 b0) (sd : Nat → Int32) (i i2 : IS) :
    Nw 0 (csG ki kr ku M.1 M.2.1 M.2.2.1 M.2.2.2.1 M.2.2.2.2 bs M.2.2.2.2 0 (sd, rdI i)) (tkG (pkF b n ec zs zw zr zo ki r.2.1 r.2.2 un) zr r.2.1 r.2.2 48 0 r.1 6 (-1) (bs0 i2 (un (atN 0 r.1 6)))) ∧ iQ (csG ki kr ku M.1 M.2.1 M.2.2.1 M.2.2.2.1 M.2.2.2.2 bs M.2.2.2.2 0 (sd, rdI i)).2 = 0 ∧ iR (csG ki kr ku M.1 M.2.1 M.2.2.1 M.2.2.2.1 M.2.2.2.2 bs M.2.2.2.2 0 (sd, rdI i)).2 = true ∧ iL (tkG (pkF b n ec zs zw zr zo ki r.2.1 r.2.2 un) zr r.2.1 r.2.2 48 0 r.1 6 (-1) (bs0 i2 (un (atN 0 r.1 6)))) = fN bs 0 M.2.2.2.2 6 ∧ iM (tkG (pkF b n ec zs zw zr zo ki r.2.1 r.2.2 un) zr r.2.1 r.2.2 48 0 r.1 6 (-1) (bs0 i2 (un (atN 0 r.1 6)))) ≤ 48 := by
  have hmm : r.1 ≤ 48 := Nat.le_trans (mRel_n h) hn
  have hPP := hPb_of (ki := ki) hW htx hB h
  have hR : ∀ k, k < 6 → bt kr k = zr k := fun k hk9 => (hB k hk9).1
  have hU : rAll zr (bP b n ec zs zw zr zo ki r.2.1 r.2.2) r.1 0 un := by rw [hun]; exact count_ok hmm u0
  have hmo : ∀ x, x < r.1 → m6 (M.2.2.1 x) := fun x hx => by rw [(h.2.1 x hx).2.2.1]; exact m6_kw
  have hF := fsAll_ok hR hPP hmo hmm hU b0
  rw [← h.1, ← hbs, h.1] at hF
  have hrow : ∀ t s, (s = 6 ∧ t = r.1) ∨ (s < 6 ∧ t < r.1 ∧ bt (M.2.2.2.1 t) s = true ∧ zr s = false) → ∀ f', f' ≤ t → fN bs f' t s = un (atN f' t s) := by
    rintro t s (⟨rfl, rfl⟩ | ⟨h1, h2, h3, h4⟩) f' hf'
    · exact hF.2 f' hf'
    · exact hF.1 t s h2 h1 h3 h4 f' hf'
  have hs := seg (ki := ki) (kr := kr) (ku := ku) (mp := r.2.1) (mz := r.2.2) (mpC := M.1) (mb := M.2.1) (mo := M.2.2.1) (mc := M.2.2.2.1) (mm := r.1) (bs := bs) (pk := pkF b n ec zs zw zr zo ki r.2.1 r.2.2 un) (zr := zr) (V := fun t s => (s = 6 ∧ t = r.1) ∨ (s < 6 ∧ t < r.1 ∧ bt (M.2.2.2.1 t) s = true ∧ zr s = false)) hmm (fun x hx => ⟨(h.2.1 x hx).1, (h.2.1 x hx).2.1⟩)
    (fun t s v => by rcases v with v | v <;> omega)
    (fun f t s v hft => pick_eq hR hPP hmm hU hF.1 hft (by rcases v with v | v <;> omega) (by rcases v with v | v <;> omega) (hrow t s v))
    (fun f t s v hft h6 => by
      have ht : t ≤ r.1 := by rcases v with v | v <;> omega
      have h2 := pkF_pick (b := b) (n := n) (ec := ec) (zs := zs) (zw := zw) (zr := zr) (zo := zo) (zi := ki) (mp := r.2.1) (mz := r.2.2) (un := un) (f := f) (t := t) (s := s) (by omega)
      rw [if_neg (by omega)] at h2
      obtain ⟨g1, g2, g3, g4, -⟩ := h2
      refine ⟨g2, g3, fun hz => Or.inr ⟨h6, by omega, ?_, hz⟩⟩
      rw [pkC, Bool.and_eq_true] at g4
      have := ((hPP f t s _ _ ht (by rcases v with v | v <;> omega)).mp ⟨g1, g2, g3, g4.1⟩).2.2.2
      rw [b_and, Bool.and_eq_true] at this
      exact this.2)
    (fun k hk9 hz => by
      have e2 : ¬ nI k = 6 := fun z => by
        have := (nI_eq (b := 6) (by omega) (by decide)).mp z
        omega
      rw [alw, if_neg e2, hk_bt kr (by omega), hR k hk9, hz, Bool.or_true, Bool.or_true, if_pos rfl])
    48 0 r.1 6 (sd, rdI i) (bs0 i2 (un (atN 0 r.1 6))) (Or.inl ⟨rfl, rfl⟩) (Nat.zero_le _) (by omega) rfl (by show 0 + (r.1 - 0) ≤ 48; omega) (fun x hx => absurd hx (Nat.not_lt_zero x)) rfl (by
      show (okd (iK i) (iO i) 0 0).toNatClampNeg = 6
      rw [okd, if_neg (by omega)]
      decide)
  have hop : opI (iO (rdI i)) (iQ (rdI i)) 0 = -1 := rfl
  have hs : Kp (sd, rdI i) (csG ki kr ku M.1 M.2.1 M.2.2.1 M.2.2.2.1 r.1 bs (r.1 - 0) 0 (sd, rdI i)) ∧ Kr (bs0 i2 (un (atN 0 r.1 6))) (tkG (pkF b n ec zs zw zr zo ki r.2.1 r.2.2 un) zr r.2.1 r.2.2 48 0 r.1 6 (-1) (bs0 i2 (un (atN 0 r.1 6)))) ∧ Nw 0 (csG ki kr ku M.1 M.2.1 M.2.2.1 M.2.2.2.1 r.1 bs (r.1 - 0) 0 (sd, rdI i)) (tkG (pkF b n ec zs zw zr zo ki r.2.1 r.2.2 un) zr r.2.1 r.2.2 48 0 r.1 6 (-1) (bs0 i2 (un (atN 0 r.1 6)))) ∧ iM (tkG (pkF b n ec zs zw zr zo ki r.2.1 r.2.2 un) zr r.2.1 r.2.2 48 0 r.1 6 (-1) (bs0 i2 (un (atN 0 r.1 6)))) ≤ 0 + (r.1 - 0) := hs
  rw [Nat.sub_zero, Nat.zero_add] at hs
  rw [h.1]
  obtain ⟨s1, s2, s3, s4⟩ := hs
  refine ⟨s3, s1.2.1, s1.2.2.2.1, ?_, by omega⟩
  rw [s2.2.1, hrow r.1 6 (Or.inl ⟨rfl, rfl⟩) 0 (Nat.zero_le _)]
  rfl
end
