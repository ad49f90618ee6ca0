/-! THEORY 13: how islands stand to one another, while they are read -/
def clo (q : Nat) (o : Nat → Nat) (k : Nat) : Prop := ∀ r, r < q → o r ≠ k
def SI (c : Nat) (i : IS) : Prop := iR i = true ∧ iM i ≤ 48 ∧ ∃ a e o : Nat → Nat,
  (∀ k, k < iM i → iA i k = nI (a k) ∧ a k ≤ c) ∧
  (∀ k, k < iM i → clo (iQ i) o k → iE i k = nI (e k) ∧ a k ≤ e k ∧ e k ≤ c) ∧
  (∀ k, k < iM i → (iP i k = -1 ∧ iD i k = nI 0) ∨ ∃ t, t < k ∧ iP i k = nI t ∧ (∃ w, iD i t = nI w ∧ iD i k = nI (w + 1)) ∧ a t ≤ a k ∧ (clo (iQ i) o t → clo (iQ i) o k ∧ e k ≤ e t)) ∧
  (∀ j k, j < k → k < iM i → iP i j = -1 → iP i k = -1 → clo (iQ i) o j ∧ e j ≤ a k) ∧
  (∀ r, r < iQ i → iO i r = nI (o r) ∧ o r < iM i ∧ iD i (o r) = nI r ∧ (r = 0 → iP i (o r) = -1) ∧ (0 < r → iP i (o r) = nI (o (r - 1)))) ∧
  (∀ r, r + 1 < iQ i → o r < o (r + 1))
theorem SI_rd (i : IS) : SI 0 (rdI i) := ⟨rfl, Nat.zero_le _, fun _ => 0, fun _ => 0, fun _ => 0, fun k hk9 => absurd hk9 (Nat.not_lt_zero k), fun k hk9 => absurd hk9 (Nat.not_lt_zero k), fun k hk9 => absurd hk9 (Nat.not_lt_zero k), fun j k _ hk9 => absurd hk9 (Nat.not_lt_zero k), fun r hr => absurd hr (Nat.not_lt_zero r), fun r hr => absurd hr (Nat.not_lt_zero _)⟩
theorem SI_up {c c' : Nat} {i : IS} (h : SI c i) (hc : c ≤ c') : SI c' i := by
  obtain ⟨h0, h1, a, e, o, h2, h3, h4⟩ := h
  exact ⟨h0, h1, a, e, o, fun k hk9 => ⟨(h2 k hk9).1, Nat.le_trans (h2 k hk9).2 hc⟩, fun k hk9 g => ⟨(h3 k hk9 g).1, (h3 k hk9 g).2.1, Nat.le_trans (h3 k hk9 g).2.2 hc⟩, h4⟩
theorem SI_lf {c : Nat} {i : IS} (h : SI c i) : SI c (lfI i) := h
theorem inc_lt {o : Nat → Nat} {q : Nat} (h : ∀ r, r + 1 < q → o r < o (r + 1)) : ∀ {r r' : Nat}, r < r' → r' < q → o r < o r'
  | r, 0, h1, _ => absurd h1 (Nat.not_lt_zero r)
  | r, r' + 1, h1, h2 => by
    have h3 := h r' h2
    by_cases e : r = r'
    · subst e; exact h3
    · have := inc_lt h (r := r) (r' := r') (by omega) (by omega)
      omega
theorem SI_bg {c y : Nat} {x : Int32} {i : IS} (h : SI c i) (hy : c ≤ y) (hm : iM i < 48) : SI y (bgI x (nI y) i) := by
  obtain ⟨h0, h1, a, e, o, h2, h3, h4, h5, h6, h7⟩ := h
  have hqm : iQ i ≤ 48 := by
    have : ∀ r, r < iQ i → r ≤ o r := fun r => by
      induction r with
      | zero => exact fun _ => Nat.zero_le _
      | succ r ih => intro hr; have := ih (by omega); have := h7 r hr; omega
    rcases Nat.eq_zero_or_pos (iQ i) with z | z
    · omega
    · have g1 := this (iQ i - 1) (by omega)
      have g2 := (h6 (iQ i - 1) (by omega)).2.1
      omega
  generalize hq : iQ i = q at *
  generalize hM : iM i = m at *
  have eA : ∀ k, iA (bgI x (nI y) i) k = upd (iA i) m (nI y) k := fun k => by rw [← hM]; rfl
  have eE : ∀ k, iE (bgI x (nI y) i) k = iE i k := fun k => rfl
  have eP : ∀ k, iP (bgI x (nI y) i) k = upd (iP i) m (opI (iO i) q 0) k := fun k => by rw [← hM, ← hq]; rfl
  have eD : ∀ k, iD (bgI x (nI y) i) k = upd (iD i) m (nI q) k := fun k => by rw [← hM, ← hq]; rfl
  have eO : ∀ k, iO (bgI x (nI y) i) k = upd (iO i) q (nI m) k := fun k => by rw [← hM, ← hq]; rfl
  have eM : iM (bgI x (nI y) i) = m + 1 := by rw [← hM]; rfl
  have eQ : iQ (bgI x (nI y) i) = q + 1 := by rw [← hq]; rfl
  have eR : iR (bgI x (nI y) i) = true := h0
  generalize bgI x (nI y) i = i' at *
  have oN : ∀ r, r < q → updN o q m r = o r := fun r hr => by rw [updN, if_neg (by omega)]
  have oM : updN o q m q = m := by rw [updN, if_pos rfl]
  have aN : ∀ k, k < m → updN a m y k = a k := fun k hk9 => by rw [updN, if_neg (by omega)]
  have aM : updN a m y m = y := by rw [updN, if_pos rfl]
  have cl1 : ∀ k, clo (q + 1) (updN o q m) k → k ≠ m ∧ clo q o k := fun k g => ⟨fun z => g q (by omega) (by rw [oM, z]), fun r hr z => g r (by omega) (by rw [oN r hr]; exact z)⟩
  have cl2 : ∀ k, k ≠ m → clo q o k → clo (q + 1) (updN o q m) k := fun k hk9 g r hr z => by
    by_cases er : r = q
    · subst er; rw [oM] at z; exact hk9 z.symm
    · rw [oN r (by omega)] at z; exact g r (by omega) z
  have hop : (q = 0 ∧ opI (iO i) q 0 = -1) ∨ (0 < q ∧ opI (iO i) q 0 = nI (o (q - 1))) := by
    rcases Nat.eq_zero_or_pos q with z | z
    · exact Or.inl ⟨z, by rw [opI, if_neg (by omega)]⟩
    · exact Or.inr ⟨z, by rw [opI, if_pos (by omega), Nat.sub_zero, (h6 (q - 1) (by omega)).1]⟩
  rw [SI, eM, eQ]
  refine ⟨eR, by omega, updN a m y, e, updN o q m, fun k hk9 => ?_, fun k hk9 g => ?_, fun k hk9 => ?_, fun j k hj hk9 p1 p2 => ?_, fun r hr => ?_, fun r hr => ?_⟩
  · rw [eA]
    by_cases ek : k = m
    · subst ek; rw [pk_us, aM]; exact ⟨rfl, Nat.le_refl _⟩
    · rw [pk_un ek, aN k (by omega)]; exact ⟨(h2 k (by omega)).1, Nat.le_trans (h2 k (by omega)).2 hy⟩
  · obtain ⟨g1, g2⟩ := cl1 k g
    have := h3 k (by omega) g2
    rw [eE, aN k (by omega)]
    exact ⟨this.1, this.2.1, by omega⟩
  · rw [eP, eD]
    by_cases ek : k = m
    · subst ek
      rw [pk_us, pk_us]
      rcases hop with ⟨z1, z2⟩ | ⟨z1, z2⟩
      · exact Or.inl ⟨z2, by rw [z1]⟩
      · have ht := h6 (q - 1) (by omega)
        refine Or.inr ⟨o (q - 1), ht.2.1, z2, ⟨q - 1, ?_, by rw [show q - 1 + 1 = q by omega]⟩, ?_, fun g => absurd rfl ((cl1 _ g).2 (q - 1) (by omega))⟩
        · rw [eD, pk_un (by omega)]; exact ht.2.2.1
        · rw [aM, aN _ ht.2.1]
          exact Nat.le_trans (h2 _ ht.2.1).2 hy
    · rw [pk_un ek, pk_un ek]
      rcases h4 k (by omega) with z | ⟨t, t1, t2, ⟨w, w1, w2⟩, t4, t5⟩
      · exact Or.inl z
      · refine Or.inr ⟨t, t1, t2, ⟨w, by rw [eD, pk_un (by omega)]; exact w1, w2⟩, by rw [aN t (by omega), aN k (by omega)]; exact t4, fun g => ?_⟩
        obtain ⟨g1, g2⟩ := cl1 t g
        exact ⟨cl2 k ek (t5 g2).1, (t5 g2).2⟩
  · rw [eP] at p1 p2
    rw [pk_un (by omega)] at p1
    by_cases ek : k = m
    · subst ek
      rw [pk_us] at p2
      have hq0 : q = 0 := by
        rcases hop with ⟨z1, -⟩ | ⟨z1, z2⟩
        · exact z1
        · rw [z2] at p2
          have := (h6 (q - 1) (by omega)).2.1
          exact absurd p2 (nI_m1 (by omega))
      have g : clo q o j := fun r hr => absurd hr (by omega)
      refine ⟨cl2 j (by omega) g, ?_⟩
      rw [aM]
      exact Nat.le_trans (h3 j (by omega) g).2.2 hy
    · rw [pk_un ek] at p2
      have := h5 j k hj (by omega) p1 p2
      exact ⟨cl2 j (by omega) this.1, by rw [aN k (by omega)]; exact this.2⟩
  · rw [eO]
    by_cases er : r = q
    · subst er
      rw [pk_us, oM, eD, pk_us, eP, pk_us]
      refine ⟨rfl, by omega, rfl, fun z => ?_, fun z => ?_⟩
      · rcases hop with ⟨-, z2⟩ | ⟨z1, -⟩
        · exact z2
        · omega
      · rcases hop with ⟨z1, -⟩ | ⟨-, z2⟩
        · omega
        · rw [z2, oN _ (by omega)]
    · have ht := h6 r (by omega)
      rw [pk_un er, oN r (by omega), eD, pk_un (by omega), eP, pk_un (by omega)]
      refine ⟨ht.1, by omega, ht.2.2.1, ht.2.2.2.1, fun z => ?_⟩
      rw [oN _ (by omega)]
      exact ht.2.2.2.2 z
  · by_cases er : r + 1 = q
    · rw [oN r (by omega), er, oM]
      exact (h6 r (by omega)).2.1
    · rw [oN r (by omega), oN (r + 1) (by omega)]
      exact h7 r (by omega)
theorem SI_fn {c y : Nat} {x : Int32} {i : IS} (h : SI c i) (hy : c ≤ y) (hq0 : 0 < iQ i) : SI y (fnI (nI y) x i) := by
  obtain ⟨h0, h1, a, e, o, h2, h3, h4, h5, h6, h7⟩ := h
  have hx := h6 (iQ i - 1) (by omega)
  have hcl : (iO i (iQ i - 1)).toNatClampNeg = o (iQ i - 1) := by rw [hx.1]; exact nI_clamp (by omega)
  have eE : ∀ k, iE (fnI (nI y) x i) k = upd (iE i) (o (iQ i - 1)) (nI y) k := fun k => by
    show upd (iE i) (iO i (iQ i - 1)).toNatClampNeg (nI y) k = _
    rw [hcl]
  generalize hX : o (iQ i - 1) = x0 at *
  have eN : ∀ k, k ≠ x0 → updN e x0 y k = e k := fun k hk9 => by rw [updN, if_neg hk9]
  have eM : updN e x0 y x0 = y := by rw [updN, if_pos rfl]
  have cl1 : ∀ k, k ≠ x0 → clo (iQ i - 1) o k → clo (iQ i) o k := fun k hk9 g r hr z => by
    by_cases er : r = iQ i - 1
    · subst er; rw [hX] at z; exact hk9 z.symm
    · exact g r (by omega) z
  have cl2 : ∀ k, clo (iQ i) o k → k ≠ x0 ∧ clo (iQ i - 1) o k := fun k g => ⟨fun z => g (iQ i - 1) (by omega) (by rw [hX, z]), fun r hr => g r (by omega)⟩
  refine ⟨h0, h1, a, updN e x0 y, o, fun k hk9 => ⟨(h2 k hk9).1, Nat.le_trans (h2 k hk9).2 hy⟩, fun k hk9 g => ?_, fun k hk9 => ?_, fun j k hj hk9 p1 p2 => ?_, fun r hr => h6 r (by have : r < iQ i - 1 := hr; omega), fun r hr => h7 r (by have : r + 1 < iQ i - 1 := hr; omega)⟩
  · rw [eE]
    by_cases ek : k = x0
    · subst ek
      rw [pk_us, eM]
      exact ⟨rfl, Nat.le_trans (h2 k hk9).2 hy, Nat.le_refl _⟩
    · rw [pk_un ek, eN k ek]
      have := h3 k hk9 (cl1 k ek g)
      exact ⟨this.1, this.2.1, by omega⟩
  · rcases h4 k hk9 with z | ⟨t, t1, t2, t3, t4, t5⟩
    · exact Or.inl z
    · refine Or.inr ⟨t, t1, t2, t3, t4, fun g => ?_⟩
      have g : clo (iQ i - 1) o t := g
      show clo (iQ i - 1) o k ∧ _
      have hk48 : k < iM i := hk9
      by_cases et : t = x0
      · have g2 : clo (iQ i - 1) o k := fun r hr z => by
          have hr6 := h6 r (by omega)
          rw [z, t2] at hr6
          rcases Nat.eq_zero_or_pos r with r0 | r0
          · exact absurd (hr6.2.2.2.1 r0) (nI_m1 (by omega))
          · have h8 := (nI_eq (by omega) (by have := (h6 (r - 1) (by omega)).2.1; omega)).mp (hr6.2.2.2.2 r0)
            have := inc_lt h7 (r := r - 1) (r' := iQ i - 1) (by omega) (by omega)
            omega
        refine ⟨g2, ?_⟩
        rw [et, eM, eN k (by omega)]
        exact Nat.le_trans (h3 k hk48 (cl1 k (by omega) g2)).2.2 hy
      · have := t5 (cl1 t et g)
        have g2 := cl2 k this.1
        refine ⟨g2.2, ?_⟩
        rw [eN t et, eN k g2.1]
        exact this.2
  · have := h5 j k hj hk9 p1 p2
    have g2 := cl2 j this.1
    exact ⟨g2.2, by rw [eN j g2.1]; exact this.2⟩
theorem SI_gu {y : Nat} {x : Int32} : ∀ {g c : Nat} {i : IS}, SI c i → c ≤ y → g ≤ iQ i → SI y (guG (nI y) x g i)
  | 0, _, _, h, hy, _ => SI_up h hy
  | g + 1, _, i, h, hy, hg => SI_gu (g := g) (SI_fn h hy (by omega)) (Nat.le_refl _) (by show g ≤ iQ i - 1; omega)
section
variable {b : Nat → Int32} {n : Nat} {ec : Int32} {ko kc ki : Nat → Int32} {kr ku : Int32} {lt : Bool}
theorem SI_tkw {c j q : Nat} {w : Int32} {i : IS} (h : SI c i) (hc : c ≤ j) (hm : iM i < 48) : SI (j + q) (tkw lt ko kc ki kr ku w (nI j) (nI (j + q)) i).2 := by
  rw [tkw]
  split
  · next k => exact SI_fn h (by omega) (clb_q k)
  · split
    · exact SI_up (SI_bg h hc hm) (by omega)
    · split
      · exact SI_up h (by omega)
      · rw [toc]
        split
        · exact SI_up h (by omega)
        · next g hg =>
          rw [iic] at hg
          have hg := iicG_lt hg
          show SI (j + q) (if lt = true then _ else _)
          split
          · exact SI_fn (SI_gu h hc (by omega)) (by omega) (by rw [iQ_gu]; omega)
          · exact SI_up (SI_lf h) (by omega)
theorem SI_rwG {c j : Nat} {i : IS} (h : SI c i) (hc : c ≤ j) (hj : j < n) (hm : iM i < 48) : ∀ q, j + (rwG lt b n ec ko kc ki kr ku j i q).1 ≤ n ∧ SI (j + (rwG lt b n ec ko kc ki kr ku j i q).1) (rwG lt b n ec ko kc ki kr ku j i q).2
  | 0 => ⟨hj, SI_up h (by show c ≤ j + 1; omega)⟩
  | q + 1 => by
    rw [rwG]
    split
    · next k =>
      simp only [Bool.and_eq_true, Bool.not_eq_true', decide_eq_false_iff_not] at k
      have hq : q + 1 ≤ n - j := by
        rcases Nat.lt_or_ge (n - j) (q + 1) with z | z
        · exact absurd (by rw [wAt, if_neg (by omega)]) k.1
        · exact z
      exact ⟨by show j + (q + 1) ≤ n; omega, SI_tkw h hc hm⟩
    · exact SI_rwG h hc hj hm q
theorem SI_qkG (hn : n ≤ 48) : ∀ (f j nx : Nat) (i : IS) (c : Nat), j + f = n → j ≤ nx → qOk j i → c ≤ nx → c ≤ n → SI c i → ∃ c', c' ≤ n ∧ SI c' (qkG lt b n ec ko kc ki kr ku f j nx i)
  | 0, j, nx, i, c, h1, h2, h3, h4, h5, h => ⟨c, h5, h⟩
  | f + 1, j, nx, i, c, h1, h2, h3, h4, h5, h => by
    rw [qkG]
    by_cases e : j = nx
    · subst e
      rw [if_pos rfl]
      by_cases he : b j = ec
      · rw [if_pos he]
        exact SI_qkG hn f (j + 1) (j + 2) i c (by omega) (by omega) (qOk_up h3 (by omega)) (by omega) h5 h
      · rw [if_neg he]
        have hr := SI_rwG (lt := lt) (b := b) (n := n) (ec := ec) (ko := ko) (kc := kc) (ki := ki) (kr := kr) (ku := ku) h h4 (by omega) (by have := h3.1; omega) 3
        have hq := qOk_rwG (lt := lt) (b := b) (n := n) (ec := ec) (ko := ko) (kc := kc) (ki := ki) (kr := kr) (ku := ku) h3 (show j < 48 by omega) 3
        exact SI_qkG hn f (j + 1) _ _ _ (by omega) (by show j + 1 ≤ j + (rwG lt b n ec ko kc ki kr ku j i 3).1; omega) hq.1 (Nat.le_refl _) hr.1 hr.2
    · rw [if_neg e]
      exact SI_qkG hn f (j + 1) nx i c (by omega) (by omega) (qOk_up h3 (by omega)) h4 h5 h
/-- after a quick reading -/
theorem SI_quick (hn : n ≤ 48) (i : IS) : SI n (guG (nI n) (nI 2) (iQ (qkG lt b n ec ko kc ki kr ku n 0 0 (rdI i))) (qkG lt b n ec ko kc ki kr ku n 0 0 (rdI i))) ∧ iQ (guG (nI n) (nI 2) (iQ (qkG lt b n ec ko kc ki kr ku n 0 0 (rdI i))) (qkG lt b n ec ko kc ki kr ku n 0 0 (rdI i))) = 0 := by
  obtain ⟨c, h1, h2⟩ := SI_qkG (lt := lt) (b := b) (ec := ec) (ko := ko) (kc := kc) (ki := ki) (kr := kr) (ku := ku) hn n 0 0 (rdI i) 0 (by omega) (by omega) ⟨Nat.le_refl _, Nat.zero_le _, fun r hr => absurd hr (Nat.not_lt_zero r)⟩ (by omega) (by omega) (SI_rd i)
  exact ⟨SI_gu h2 h1 (Nat.le_refl _), by rw [iQ_gu]; omega⟩
theorem SI_csG {mp mz : Nat → Nat} {mpC mb mo mc : Nat → Int32} {mm : Nat} {bs : Nat → Int64} (hmm : mm ≤ 48) (hmp : ∀ x, x < mm → mpC x = nI (mp x) ∧ mb x = nI (mp x + mz x) ∧ mp x + mz x ≤ n) (hinc : ∀ x, x + 1 < mm → mp x + mz x ≤ mp (x + 1)) : ∀ (f j : Nat) (q : (Nat → Int32) × IS) (c : Nat), j + f = mm → csOk mm j q → c ≤ n → (j < mm → c ≤ mp j) → SI c q.2 → ∃ c', c' ≤ n ∧ SI c' (csG ki kr ku mpC mb mo mc mm bs f j q).2
  | 0, j, q, c, h1, h2, h3, h4, h => ⟨c, h3, h⟩
  | f + 1, j, q, c, h1, h2, h3, h4, h => by
    rw [csG]
    have hj : j < mm := by omega
    have hst := csOk_step (ki := ki) (kr := kr) (ku := ku) (mp := mpC) (mb := mb) (mo := mo) (mc := mc) (bs := bs) h2 hmm hj
    obtain ⟨g1, g2, g3⟩ := hmp j hj
    refine SI_csG hmm hmp hinc f (j + 1) _ (mp j + mz j) (by omega) hst g3 (fun z => hinc j z) ?_
    have hc := h4 hj
    rw [csS]
    split
    · next k =>
      have hq : 0 < iQ q.2 := by
        rcases Nat.eq_zero_or_pos (iQ q.2) with z | z
        · rw [csT, if_pos z] at k; omega
        · exact z
      rw [g2]
      exact SI_fn h (by omega) hq
    · have hm := h2.1
      rw [g1]
      generalize baG kr mc bs j (csT mm q.1 q.2) (csH q.2) (mo j &&& alw ki kr ku (nI (csH q.2))) 6 0 = r
      cases r with
      | none => exact SI_up h (by omega)
      | some z => exact SI_up (SI_bg h hc (by omega)) (by omega)
theorem csOk_0 {mm : Nat} (sd : Nat → Int32) (i : IS) : csOk mm 0 (sd, rdI i) := ⟨Nat.le_refl _, Nat.le_refl _, fun r hr => absurd hr (Nat.not_lt_zero r), fun r hr => absurd hr (Nat.not_lt_zero r), fun _ => 0, fun r hr => absurd hr (Nat.not_lt_zero r), fun r hr => absurd hr (Nat.not_lt_zero _)⟩
end
