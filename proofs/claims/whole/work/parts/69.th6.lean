/-! THEORY 6: both quick readings give the same islands -/
def QE (i i2 : IS) : Prop := iM i = iM i2 ∧ iQ i = iQ i2 ∧ iL i = iL i2 ∧ (∀ r, r < iQ i → iO i r = iO i2 r) ∧ (∀ k, k < iM i → iK i k = iK i2 k ∧ iA i k = iA i2 k ∧ iP i k = iP i2 k) ∧ ∀ k, k < iM i → (∀ r, r < iQ i → iO i r ≠ nI k) → iE i k = iE i2 k ∧ iT i k = iT i2 k
theorem QE_fn {x y : Int32} {i i2 : IS} (h : QE i i2) (ho : opOk (iO i) (iQ i) (iM i)) (hm : iM i ≤ 48) (hq : 0 < iQ i) : QE (fnI x y i) (fnI x y i2) := by
  obtain ⟨h1, h2, h3, h4, h5, h6⟩ := h
  obtain ⟨t, t1, t2⟩ := ho (iQ i - 1) (by omega)
  have hc : (iO i (iQ i - 1)).toNatClampNeg = t := by rw [t2]; exact nI_clamp (by omega)
  have hc2 : (iO i2 (iQ i2 - 1)).toNatClampNeg = t := by rw [← h2, ← h4 _ (by omega)]; exact hc
  refine ⟨h1, by show iQ i - 1 = iQ i2 - 1; rw [h2], h3, fun r hr => h4 r (by have : r < iQ i - 1 := hr; omega), h5, fun k hk9 hcl => ?_⟩
  show upd (iE i) (iO i (iQ i - 1)).toNatClampNeg x k = upd (iE i2) (iO i2 (iQ i2 - 1)).toNatClampNeg x k ∧ upd (iT i) (iO i (iQ i - 1)).toNatClampNeg y k = upd (iT i2) (iO i2 (iQ i2 - 1)).toNatClampNeg y k
  rw [hc, hc2]
  by_cases e : k = t
  · subst e
    rw [pk_us, pk_us, pk_us, pk_us]
    exact ⟨rfl, rfl⟩
  · rw [pk_un e, pk_un e, pk_un e, pk_un e]
    refine h6 k hk9 (fun r hr => ?_)
    by_cases er : r = iQ i - 1
    · subst er
      rw [t2]
      intro z
      have : k < iM i := hk9
      exact e ((nI_eq (by omega) (by omega)).mp z).symm
    · exact hcl r (by show r < iQ i - 1; omega)
theorem opOk_fn {x y : Int32} {i : IS} (ho : opOk (iO i) (iQ i) (iM i)) : opOk (iO (fnI x y i)) (iQ (fnI x y i)) (iM (fnI x y i)) := fun r hr => ho r (Nat.lt_of_lt_of_le hr (Nat.sub_le _ _))
theorem QE_gu {x y : Int32} : ∀ {g : Nat} {i i2 : IS}, QE i i2 → opOk (iO i) (iQ i) (iM i) → iM i ≤ 48 → g ≤ iQ i → QE (guG x y g i) (guG x y g i2)
  | 0, _, _, h, _, _, _ => h
  | g + 1, i, i2, h, ho, hm, hg => QE_gu (g := g) (QE_fn h ho hm (by omega)) (opOk_fn ho) hm (by show g ≤ iQ i - 1; omega)
theorem QE_lf {i i2 : IS} (h : QE i i2) : QE (lfI i) (lfI i2) := ⟨h.1, h.2.1, congrArg (· + 1) h.2.2.1, h.2.2.2⟩
theorem QE_bg {x y : Int32} {i i2 : IS} (h : QE i i2) (hm : iM i < 48) : QE (bgI x y i) (bgJ x y i2) := by
  obtain ⟨h1, h2, h3, h4, h5, h6⟩ := h
  have hop : opI (iO i) (iQ i) 0 = opI (iO i2) (iQ i2) 0 := by
    rw [opI, opI, ← h2]
    by_cases e : 0 + 1 ≤ iQ i
    · rw [if_pos e, if_pos e, h4 _ (by omega)]
    · rw [if_neg e, if_neg e]
  refine ⟨by show iM i + 1 = iM i2 + 1; rw [h1], by show iQ i + 1 = iQ i2 + 1; rw [h2], h3, fun r hr => ?_, fun k hk9 => ?_, fun k hk9 hcl => ?_⟩
  · have hr : r < iQ i + 1 := hr
    show upd (iO i) (iQ i) (nI (iM i)) r = upd (iO i2) (iQ i2) (nI (iM i2)) r
    rw [← h2, ← h1]
    by_cases e : r = iQ i
    · subst e; rw [pk_us, pk_us]
    · rw [pk_un e, pk_un e]; exact h4 r (by omega)
  · have hk9 : k < iM i + 1 := hk9
    show upd (iK i) (iM i) x k = upd (iK i2) (iM i2) x k ∧ upd (iA i) (iM i) y k = upd (iA i2) (iM i2) y k ∧ upd (iP i) (iM i) (opI (iO i) (iQ i) 0) k = upd (iP i2) (iM i2) (opI (iO i2) (iQ i2) 0) k
    rw [hop, ← h1]
    by_cases e : k = iM i
    · subst e; rw [pk_us, pk_us, pk_us, pk_us, pk_us, pk_us]; exact ⟨rfl, rfl, rfl⟩
    · rw [pk_un e, pk_un e, pk_un e, pk_un e, pk_un e, pk_un e]; exact h5 k (by omega)
  · have hk9 : k < iM i + 1 := hk9
    have e : k ≠ iM i := fun z => hcl (iQ i) (Nat.lt_succ_self _) (by show upd (iO i) (iQ i) (nI (iM i)) (iQ i) = nI k; rw [pk_us, z])
    show iE i k = upd (iE i2) (iM i2) (-1) k ∧ iT i k = upd (iT i2) (iM i2) 2 k
    rw [← h1, pk_un e, pk_un e]
    refine h6 k (by omega) (fun r hr => ?_)
    have := hcl r (by show r < iQ i + 1; omega)
    intro z
    apply this
    show upd (iO i) (iQ i) (nI (iM i)) r = nI k
    rw [pk_un (by omega)]
    exact z
theorem kd_QE {i i2 : IS} (h : QE i i2) (ho : opOk (iO i2) (iQ i2) (iM i2)) (hm : iM i2 ≤ 48) {r : Nat} (hr : r < iQ i) : kd i r = kd i2 r := by
  obtain ⟨h1, h2, h3, h4, h5, h6⟩ := h
  obtain ⟨t, t1, t2⟩ := ho r (by omega)
  rw [kd, kd, h4 r hr, t2, nI_clamp (by omega), (h5 t (by omega)).1]
theorem kOk_QE {i i2 : IS} (h : QE i i2) (ho : opOk (iO i2) (iQ i2) (iM i2)) (hm : iM i2 ≤ 48) (hk9 : kOk i2) : kOk i := by
  obtain ⟨h1, h2, h3, h4, h5, h6⟩ := h
  intro r hr
  obtain ⟨t, t1, t2⟩ := ho r (by omega)
  obtain ⟨k, k1, k2⟩ := hk9 r (by omega)
  refine ⟨k, k1, ?_⟩
  rw [t2, nI_clamp (by omega)] at k2
  rw [h4 r hr, t2, nI_clamp (by omega), (h5 t (by omega)).1]
  exact k2
theorem csH_QE {i i2 : IS} (h : QE i i2) (ho : opOk (iO i2) (iQ i2) (iM i2)) (hm : iM i2 ≤ 48) (hk9 : kOk i2) : csH i = csH i2 := by
  have g1 := kH_eq (kOk_QE h ho hm hk9)
  have g2 := kH_eq hk9
  by_cases e : iQ i = 0
  · rw [g1.2.2.2 e, g2.2.2.2 (by rw [← h.2.1]; exact e)]
  · rw [(g1.2.2.1 (by omega)).2, (g2.2.2.1 (by have := h.2.1; omega)).2, ← h.2.1, kd_QE h ho hm (by omega)]
theorem kd_fn {x y : Int32} {i : IS} {r : Nat} : kd (fnI x y i) r = kd i r := rfl
theorem kd_gu {x y : Int32} {r : Nat} : ∀ {g : Nat} {i : IS}, kd (guG x y g i) r = kd i r
  | 0, _ => rfl
  | g + 1, i => kd_gu (g := g) (i := fnI x y i)
theorem kd_bg {y : Int32} {i : IS} {k r : Nat} (ho : opOk (iO i) (iQ i) (iM i)) (hm : iM i < 48) (hk9 : k < 6) (hr : r < iQ i + 1) : kd (bgJ (nI k) y i) r = if r = iQ i then k else kd i r := by
  rw [kd]
  show (upd (iK i) (iM i) (nI k) (upd (iO i) (iQ i) (nI (iM i)) r).toNatClampNeg).toNatClampNeg = _
  by_cases e : r = iQ i
  · subst e
    rw [if_pos rfl, pk_us, nI_clamp (by omega), pk_us, nI_clamp (by omega)]
  · obtain ⟨t, t1, t2⟩ := ho r (by omega)
    rw [if_neg e, pk_un e, t2, nI_clamp (by omega), pk_un (by omega), kd, t2, nI_clamp (by omega)]
section
variable {b : Nat → Int32} {n : Nat} {ec : Int32} {ko kc ki : Nat → Int32} {kr ku : Int32} {zs : Nat → Nat} {zw : Nat → Int32} {zr zo : Nat → Bool} {lt : Bool}
theorem kC_fn {x y : Int32} {i : IS} (h : kC zs i) : kC zs (fnI x y i) := fun r hr => h r (Nat.lt_of_lt_of_le hr (Nat.sub_le _ _))
theorem kC_gu {x y : Int32} : ∀ {g : Nat} {i : IS}, kC zs i → kC zs (guG x y g i)
  | 0, _, h => h
  | g + 1, i, h => kC_gu (g := g) (i := fnI x y i) (kC_fn h)
theorem kC_bg {y : Int32} {i : IS} {k : Nat} (h : kC zs i) (ho : opOk (iO i) (iQ i) (iM i)) (hm : iM i < 48) (hk9 : k < 6) (hc : cplM zs k = true) : kC zs (bgJ (nI k) y i) := fun r hr => by
  have hr : r < iQ i + 1 := hr
  rw [kd_bg ho hm hk9 hr]
  split
  · exact hc
  · exact h r (by omega)
theorem step_eq (hW : wRel ko kc zs zw) (htx : ∀ p, p < n → txB (b p) = true) (hB : bRel kr ku zr zo) {i i2 : IS} {j : Nat} (hj : j < 48) (hE : QE i i2) (hJ : qJ j i2) (hC : kC zs i2) (hb : ¬ b j = ec) : (rw3 lt b n ec ko kc ki kr ku j i).1 = (stp lt b n ec zs zw zr zo ki i2 j).1 ∧ QE (rw3 lt b n ec ko kc ki kr ku j i).2 (stp lt b n ec zs zw zr zo ki i2 j).2 ∧ kC zs (stp lt b n ec zs zw zr zo ki i2 j).2 := by
  have ho2 := hJ.1.2.2
  have hm2 : iM i2 ≤ 48 := by have := hJ.1.1; omega
  have hkk2 := hJ.2
  have hkk := kOk_QE hE ho2 hm2 hkk2
  have hcs := csH_QE hE ho2 hm2 hkk2
  have hQ : iQ i = iQ i2 := hE.2.1
  have hM : iM i = iM i2 := hE.1
  have hO : opOk (iO i) (iQ i) (iM i) := fun r hr => by rw [hE.2.2.2.1 r hr, hM]; exact ho2 r (by omega)
  have hkd : ∀ r, r < iQ i → kd i r = kd i2 r := fun r hr => kd_QE hE ho2 hm2 hr
  have hCi : kC zs i := fun r hr => by rw [hkd r hr]; exact hC r (by omega)
  have eC : ∀ q, cC b n ec zs zw i j q ↔ cC b n ec zs zw i2 j q := fun q => by rw [cC, cC, hcs]
  have eO : ∀ q k, oC b n ec zs zw zr zo ki i j q k ↔ oC b n ec zs zw zr zo ki i2 j q k := fun q k => by rw [oC, oC, hcs]
  have eX : ∀ q r, r < iQ i → (xC b n ec zs zw i j q r ↔ xC b n ec zs zw i2 j q r) := fun q r hr => by rw [xC, xC, hkd r hr]
  have hS := sp3_spec (b := b) (n := n) (ec := ec) (zs := zs) (zw := zw) (zr := zr) (zo := zo) (ki := ki) (i := i2) (j := j)
  have hok := sp3_ok (b := b) (n := n) (ec := ec) (zs := zs) (zw := zw) (zr := zr) (zo := zo) (zi := ki) (i := i2) (j := j) hW.1 hkk2
  have none_of : ∀ q, 1 ≤ q → q ≤ 3 → (sp3 b n ec zs zw zr zo ki i2 j).1 < q → ∀ x y, (tkw lt ko kc ki kr ku (wAt b n ec j q) x y i).1 = false := by
    intro q hq hq3 hlt x y
    have hz := hS.1 q hlt
    refine tkw_none hW htx hB hkk hCi hq hq3 (fun z => hz.1 ((eC q).mp z)) (fun h8 k hk9 z => hz.2.1 (by omega) k hk9 ((eO q k).mp z)) (fun hzr r hr z => ?_)
    rw [hcs] at hzr
    exact hz.2.2 r (by rw [if_neg (by rw [hzr]; exact Bool.false_ne_true)]; omega) (by omega) ((eX q r (by omega)).mp z)
  rw [stp, if_neg hb]
  by_cases h0 : (sp3 b n ec zs zw zr zo ki i2 j).1 = 0
  · rw [if_pos h0]
    have hr : rw3 lt b n ec ko kc ki kr ku j i = (1, i) := by
      rw [rw3, rw_skip (L := 0) hW htx hB 3 (by omega) (fun r _ g2 => none_of (r + 1) (by omega) (by omega) (by omega) _ _)]
      rfl
    rw [hr]
    exact ⟨rfl, hE, hC⟩
  · rw [if_neg h0]
    generalize sp3 b n ec zs zw zr zo ki i2 j = t at *
    obtain ⟨L, S, O⟩ := t
    obtain ⟨t1, -, t3⟩ := hok
    have t1 : L ≤ 3 := t1
    have h0 : ¬ L = 0 := h0
    obtain ⟨q, rfl⟩ : ∃ q, L = q + 1 := ⟨L - 1, by omega⟩
    have hskip : rw3 lt b n ec ko kc ki kr ku j i = rwG lt b n ec ko kc ki kr ku j i (q + 1) := by
      rw [rw3, rw_skip (L := q + 1) hW htx hB 3 (by omega) (fun r g1 g2 => none_of (r + 1) (by omega) (by omega) (by show q + 1 < r + 1; omega) _ _)]
    have hm48 : iM i2 < 48 := Nat.lt_of_le_of_lt hJ.1.1 hj
    rcases hS.2 h0 with ⟨s1, s2⟩ | ⟨s1, s2, s3, s4, s5, s6⟩ | ⟨s1, s2, s3, s4, s5, s6, s7⟩
    · have s1 : S = 0 := s1
      subst s1
      have hcC := (eC (q + 1)).mpr s2
      have ht := tkw_c (lt := lt) (ki := ki) (x := nI j) (y := nI (j + (q + 1))) hW htx hB hkk hCi (by omega) t1 hcC
      have h6 : csH i < 6 := by
        have := (kH_eq hkk).1
        have := hcC.1
        omega
      rw [hskip, rw_take hW htx hB (by rw [ht, decide_eq_false (wAt_nz hW htx hB (show 6 + csH i < 12 by omega) t1 hcC.2)]; rfl), ht]
      have hq0 : 0 < iQ i2 := by
        rcases t3 h0 with z | z | z
        · exact z.2
        · exact absurd z.1 (by show ¬ (0 : Nat) = 1; decide)
        · exact absurd z.1 (by show ¬ (0 : Nat) = 2; decide)
      exact ⟨rfl, QE_fn hE hO (by omega) (by omega), kC_fn hC⟩
    · have s1 : S = 1 := s1
      subst s1
      have ho := (eO (q + 1) O).mpr s5
      have ht := tkw_o (lt := lt) (x := nI j) (y := nI (j + (q + 1))) hW htx hB hkk hCi (by omega) t1 (fun z => s2 ((eC _).mp z)) (by omega) s4 ho (fun k' g z => s6 k' g ((eO _ _).mp z))
      rw [hskip, rw_take hW htx hB (by rw [ht, decide_eq_false (wAt_nz hW htx hB (show O < 12 by have : O < 6 := s4; omega) t1 ho.2)]; rfl), ht]
      refine ⟨rfl, QE_bg hE (by omega), kC_bg hC ho2 hm48 s4 ?_⟩
      have := s5.1
      rw [csB, Bool.and_eq_true] at this
      exact this.1
    · have s1 : S = 2 := s1
      subst s1
      have s5 : O + 1 < iQ i2 := s5
      have hzr : zr (csH i2) = false := by
        refine ts_nt (fun z => ?_)
        rw [if_pos z] at s4
        have s4 : iQ i2 - 1 ≤ O := s4
        omega
      have hx := (eX (q + 1) O (by omega)).mpr s6
      have ht := tkw_x (lt := lt) (x := nI j) (y := nI (j + (q + 1))) hW htx hB hkk hCi (by omega) t1 (fun z => s2 ((eC _).mp z)) (fun h8 k hk9 z => s3 (by omega) k hk9 ((eO _ _).mp z)) (by rw [hcs]; exact hzr) (by omega) hx (fun r' g1 g2 z => s7 r' g1 (by omega) ((eX _ _ (by omega)).mp z))
      rw [hskip, rw_take hW htx hB (by rw [ht, decide_eq_false (wAt_nz hW htx hB (show 6 + kd i O < 12 by have := (kd_eq hkk (r := O) (by omega)).1; omega) t1 hx)]; rfl), ht]
      show q + 1 = q + 1 ∧ QE (if lt = true then _ else _) (if lt = true then _ else _) ∧ kC zs (if lt = true then _ else _)
      by_cases hlt : lt = true
      · rw [if_pos hlt, if_pos hlt, hQ]
        refine ⟨rfl, QE_fn (QE_gu hE hO (by omega) (by omega)) ?_ ?_ ?_, kC_fn (kC_gu hC)⟩
        · have := (iOk_gu (x := nI j) (y := 1) (n := iQ i2 - (O + 1)) (i := i) ⟨by omega, by have := hJ.1.2.1; omega, hO⟩).2.2
          exact this
        · have := (iOk_gu (x := nI j) (y := 1) (n := iQ i2 - (O + 1)) (i := i) ⟨by omega, by have := hJ.1.2.1; omega, hO⟩).1
          exact this
        · rw [iQ_gu]; omega
      · rw [if_neg hlt, if_neg hlt]
        exact ⟨rfl, QE_lf hE, hC⟩
theorem qk_eq (hW : wRel ko kc zs zw) (htx : ∀ p, p < n → txB (b p) = true) (hB : bRel kr ku zr zo) (hn : n ≤ 48) : ∀ (f j nx : Nat) (i : IS) (g : Nat) (i2 : IS), j + f = n → j ≤ nx → n ≤ nx + g → QE i i2 → (qJ nx i2 ∨ n ≤ nx) → kC zs i2 → iOk i2 → QE (qkG lt b n ec ko kc ki kr ku f j nx i) (mqG lt b n ec zs zw zr zo ki g nx i2) ∧ iOk (mqG lt b n ec zs zw zr zo ki g nx i2)
  | 0, j, nx, i, g, i2, h1, h2, h3, hE, hJ, hC, hI => by
    have hr : mqG lt b n ec zs zw zr zo ki g nx i2 = i2 := by
      cases g with
      | zero => rfl
      | succ g => rw [mqG, if_neg (by omega)]
    rw [hr]
    exact ⟨hE, hI⟩
  | f + 1, j, nx, i, g, i2, h1, h2, h3, hE, hJ, hC, hI => by
    rw [qkG]
    by_cases e : j = nx
    · subst e
      rw [if_pos rfl]
      obtain ⟨g, rfl⟩ : ∃ g', g = g' + 1 := ⟨g - 1, by omega⟩
      rw [mqG, if_pos (show j < n by omega)]
      have hqj : qJ j i2 := by
        rcases hJ with h | h
        · exact h
        · omega
      have hst := stp_ok (lt := lt) (b := b) (n := n) (ec := ec) (zs := zs) (zw := zw) (zr := zr) (zo := zo) (zi := ki) hW.1 hqj (by omega)
      by_cases he : b j = ec
      · have hs : stp lt b n ec zs zw zr zo ki i2 j = (2, i2) := by rw [stp, if_pos he]
        rw [if_pos he, hs]
        exact qk_eq hW htx hB hn f (j + 1) (j + 2) i g i2 (by omega) (by omega) (by omega) hE (Or.inl ⟨qOk_up hqj.1 (by omega), hqj.2⟩) hC hI
      · rw [if_neg he]
        obtain ⟨q1, q2, q3⟩ := step_eq (lt := lt) (ki := ki) hW htx hB (show j < 48 by omega) hE hqj hC he
        rw [q1]
        exact qk_eq hW htx hB hn f (j + 1) _ _ g _ (by omega) (by omega) (by omega) q2 (Or.inl ⟨qOk_up hst.1.1 (by omega), hst.1.2⟩) q3 (qOk_i hst.1.1 (by omega))
    · rw [if_neg e]
      exact qk_eq hW htx hB hn f (j + 1) nx i g i2 (by omega) (by omega) h3 hE hJ hC hI
theorem quick_eq (hW : wRel ko kc zs zw) (htx : ∀ p, p < n → txB (b p) = true) (hB : bRel kr ku zr zo) (hn : n ≤ 48) (i i2 : IS) : QE (guG (nI n) (nI 2) (iQ (qkG lt b n ec ko kc ki kr ku n 0 0 (rdI i))) (qkG lt b n ec ko kc ki kr ku n 0 0 (rdI i))) (guG (nI n) (nI 2) (iQ (mqG lt b n ec zs zw zr zo ki n 0 (st0 i2))) (mqG lt b n ec zs zw zr zo ki n 0 (st0 i2))) := by
  have hz : QE (rdI i) (st0 i2) := ⟨rfl, rfl, rfl, fun r hr => absurd hr (Nat.not_lt_zero r), fun k hk9 => absurd hk9 (Nat.not_lt_zero k), fun k hk9 => absurd hk9 (Nat.not_lt_zero k)⟩
  obtain ⟨h1, h2⟩ := qk_eq (lt := lt) (ki := ki) (ec := ec) hW htx hB hn n 0 0 (rdI i) n (st0 i2) (by omega) (by omega) (by omega) hz (Or.inl ⟨⟨Nat.le_refl _, Nat.zero_le _, fun r hr => absurd hr (Nat.not_lt_zero r)⟩, fun r hr => absurd hr (Nat.not_lt_zero r)⟩) (fun r hr => absurd hr (Nat.not_lt_zero r)) ⟨Nat.zero_le _, Nat.zero_le _, fun r hr => absurd hr (Nat.not_lt_zero r)⟩
  generalize qkG lt b n ec ko kc ki kr ku n 0 0 (rdI i) = r at *
  generalize mqG lt b n ec zs zw zr zo ki n 0 (st0 i2) = r2 at *
  rw [← h1.2.1]
  exact QE_gu h1 (fun r' hr => by rw [h1.2.2.2.1 r' hr, h1.1]; exact h2.2.2 r' (by rw [← h1.2.1]; exact hr)) (by rw [h1.1]; exact h2.1) (Nat.le_refl _)
end
