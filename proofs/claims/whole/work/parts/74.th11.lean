/-! THEORY 11: choosing (the class) and taking (the reference) -/
section
variable {ki : Nat → Int32} {kr ku : Int32} {mp mz : Nat → Nat} {mpC mb mo mc : Nat → Int32} {mm : Nat} {bs : Nat → Int64} {pk : Nat → Nat → Nat → Nat × Nat} {zr : Nat → Bool} {V : Nat → Nat → Prop}
theorem csG_add : ∀ (x y j : Nat) (q : (Nat → Int32) × IS), csG ki kr ku mpC mb mo mc mm bs (x + y) j q = csG ki kr ku mpC mb mo mc mm bs y (j + x) (csG ki kr ku mpC mb mo mc mm bs x j q)
  | 0, y, j, q => by rw [Nat.zero_add]; rfl
  | x + 1, y, j, q => by
    rw [show x + 1 + y = (x + y) + 1 by omega, csG, csG, csG_add x y (j + 1), show j + 1 + x = j + (x + 1) by omega]
theorem cs_raw : ∀ (x j : Nat) (q : (Nat → Int32) × IS), alw ki kr ku (nI (csH q.2)) = 0 → j + x ≤ csT mm q.1 q.2 → csG ki kr ku mpC mb mo mc mm bs x j q = q
  | 0, _, _, _, _ => rfl
  | x + 1, j, q, h, hj => by
    have e : csS ki kr ku mpC mb mo mc mm bs j q = q := by
      have h0 : ∀ z : Int32, z &&& 0 = 0 := fun z => b_ext (fun i hi => by rw [b_and, bt_0, Bool.and_false])
      rw [csS, if_neg (by omega), h, h0, baG_0 6 0 (by decide)]
      rfl
    rw [csG, e]
    exact cs_raw x (j + 1) q h (by omega)
/-- what stays of a state while a stretch is read -/
def Kp (q q' : (Nat → Int32) × IS) : Prop := iM q.2 ≤ iM q'.2 ∧ iQ q'.2 = iQ q.2 ∧ (∀ x, x < iQ q.2 → iO q'.2 x = iO q.2 x) ∧ iR q'.2 = iR q.2 ∧ ∀ k, k < iM q.2 → q'.1 k = q.1 k ∧ iK q'.2 k = iK q.2 k ∧ iA q'.2 k = iA q.2 k ∧ iE q'.2 k = iE q.2 k ∧ iT q'.2 k = iT q.2 k ∧ iP q'.2 k = iP q.2 k
theorem Kp_refl (q : (Nat → Int32) × IS) : Kp q q := ⟨Nat.le_refl _, rfl, fun _ _ => rfl, rfl, fun _ _ => ⟨rfl, rfl, rfl, rfl, rfl, rfl⟩⟩
theorem Kp_T {q q' : (Nat → Int32) × IS} (h : Kp q q') (ho : opOk (iO q.2) (iQ q.2) (iM q.2)) (hm : iM q.2 ≤ 48) : csT mm q'.1 q'.2 = csT mm q.1 q.2 ∧ csH q'.2 = csH q.2 ∧ opI (iO q'.2) (iQ q'.2) 0 = opI (iO q.2) (iQ q.2) 0 := by
  obtain ⟨h1, h2, h3, -, h5⟩ := h
  rw [csT, csT, csH, csH, okd, okd, opI, opI, h2]
  by_cases e : iQ q.2 = 0
  · rw [if_pos e, if_pos e, if_neg (by omega), if_neg (by omega), if_neg (by omega), if_neg (by omega)]
    exact ⟨rfl, rfl, rfl⟩
  · obtain ⟨t, t1, t2⟩ := ho (iQ q.2 - 1) (by omega)
    rw [if_neg e, if_neg e, if_pos (by omega), if_pos (by omega), if_pos (by omega), if_pos (by omega), Nat.sub_zero, h3 _ (by omega), t2, nI_clamp (by omega), (h5 t t1).1, (h5 t t1).2.1]
    exact ⟨rfl, rfl, rfl⟩
def Kr (i i' : IS) : Prop := iM i ≤ iM i' ∧ iL i' = iL i ∧ ∀ k, k < iM i → iK i' k = iK i k ∧ iA i' k = iA i k ∧ iE i' k = iE i k ∧ iT i' k = iT i k ∧ iP i' k = iP i k
theorem Kr_refl (i : IS) : Kr i i := ⟨Nat.le_refl _, rfl, fun _ _ => ⟨rfl, rfl, rfl, rfl, rfl⟩⟩
/-- the new islands of both -/
def Nw (m : Nat) (q : (Nat → Int32) × IS) (i : IS) : Prop := iM q.2 = iM i ∧ ∀ k, m ≤ k → k < iM i → iK q.2 k = iK i k ∧ iA q.2 k = iA i k ∧ iE q.2 k = iE i k ∧ iT q.2 k = iT i k ∧ iP q.2 k = iP i k
theorem seg (hmm : mm ≤ 48) (hmp : ∀ x, x < mm → mpC x = nI (mp x) ∧ mb x = nI (mp x + mz x))
    (hV : ∀ t s, V t s → t ≤ mm)
    (hpk : ∀ f t s, V t s → f < t → baG kr mc bs f t s (mo f &&& alw ki kr ku (nI s)) 6 0 = if 6 ≤ (pk f t s).1 then none else some (pk f t s))
    (hpv : ∀ f t s, V t s → f < t → (pk f t s).1 < 6 → f < (pk f t s).2 ∧ (pk f t s).2 < t ∧ (zr (pk f t s).1 = false → V (pk f t s).2 (pk f t s).1))
    (hraw : ∀ k, k < 6 → zr k = true → alw ki kr ku (nI k) = 0) :
    ∀ (g f t s : Nat) (q : (Nat → Int32) × IS) (i2 : IS), V t s → f ≤ t → t - f ≤ g → iM q.2 = iM i2 → iM i2 + (t - f) ≤ 48 → opOk (iO q.2) (iQ q.2) (iM q.2) → csT mm q.1 q.2 = t → csH q.2 = s →
      Kp q (csG ki kr ku mpC mb mo mc mm bs (t - f) f q) ∧ Kr i2 (tkG pk zr mp mz g f t s (opI (iO q.2) (iQ q.2) 0) i2) ∧ Nw (iM i2) (csG ki kr ku mpC mb mo mc mm bs (t - f) f q) (tkG pk zr mp mz g f t s (opI (iO q.2) (iQ q.2) 0) i2) ∧ iM (tkG pk zr mp mz g f t s (opI (iO q.2) (iQ q.2) 0) i2) ≤ iM i2 + (t - f)
  | 0, f, t, s, q, i2, v, hft, hg, hM, h48, ho, hT, hH => by
    rw [show t - f = 0 by omega, csG, tkG]
    exact ⟨Kp_refl q, Kr_refl i2, ⟨hM, fun k g1 g2 => absurd g2 (by omega)⟩, by omega⟩
  | g + 1, f, t, s, q, i2, v, hft, hg, hM, h48, ho, hT, hH => by
    rw [tkG]
    by_cases e : f < t
    · rw [if_pos e]
      have hp := hpk f t s v e
      have hstep : csS ki kr ku mpC mb mo mc mm bs f q = baR (mpC f) (if 6 ≤ (pk f t s).1 then none else some (pk f t s)) q.1 q.2 := by
        rw [csS, hT, hH, if_neg (by omega), hp]
      have hin := hpv f t s v e
      have htm := hV t s v
      generalize pk f t s = r at hp hstep hin ⊢
      obtain ⟨k, p⟩ := r
      simp only at hp hstep hin ⊢
      by_cases c : 6 ≤ k
      · rw [if_pos c] at hstep ⊢
        have hstep : csS ki kr ku mpC mb mo mc mm bs f q = q := hstep
        rw [show t - f = (t - (f + 1)) + 1 by omega, csG, hstep]
        obtain ⟨a1, a2, a3, a4⟩ := seg hmm hmp hV hpk hpv hraw g (f + 1) t s q i2 v (by omega) (by omega) hM (by omega) ho hT hH
        exact ⟨a1, a2, a3, by omega⟩
      · rw [if_neg c] at hstep ⊢
        obtain ⟨p1, p2, p3⟩ := hin (by omega)
        have hstep : csS ki kr ku mpC mb mo mc mm bs f q = (upd q.1 (iM q.2) (nI p), bgI (nI k) (mpC f) q.2) := hstep
        generalize hpar : opI (iO q.2) (iQ q.2) 0 = par
        generalize hq1 : ((upd q.1 (iM q.2) (nI p), bgI (nI k) (mpC f) q.2) : (Nat → Int32) × IS) = q1 at hstep
        generalize hj1 : tkI mp mz k f p par i2 = j1
        have m1 : iM q1.2 = iM q.2 + 1 := by rw [← hq1]; rfl
        have n1 : iM j1 = iM i2 + 1 := by rw [← hj1]; rfl
        have qq1 : iQ q1.2 = iQ q.2 + 1 := by rw [← hq1]; rfl
        have oo1 : ∀ x, iO q1.2 x = upd (iO q.2) (iQ q.2) (nI (iM q.2)) x := fun x => by rw [← hq1]; rfl
        have ho1 : opOk (iO q1.2) (iQ q1.2) (iM q1.2) := by
          intro x hx
          rw [oo1 x, m1]
          rw [qq1] at hx
          by_cases ex : x = iQ q.2
          · subst ex; exact ⟨iM q.2, by omega, pk_us⟩
          · obtain ⟨t', t1, t2⟩ := ho x (by omega)
            exact ⟨t', by omega, by rw [pk_un ex]; exact t2⟩
        have hT1 : csT mm q1.1 q1.2 = p := by
          rw [csT, qq1, if_neg (by omega), Nat.add_sub_cancel, oo1, pk_us, nI_clamp (by omega), ← hq1]
          show (upd q.1 (iM q.2) (nI p) (iM q.2)).toNatClampNeg = p
          rw [pk_us, nI_clamp (by omega)]
        have hH1 : csH q1.2 = k := by
          rw [csH, okd, qq1, if_pos (by omega), Nat.sub_zero, Nat.add_sub_cancel, oo1, pk_us, nI_clamp (by omega), ← hq1]
          show (upd (iK q.2) (iM q.2) (nI k) (iM q.2)).toNatClampNeg = k
          rw [pk_us, nI_clamp (by omega)]
        have hP1 : opI (iO q1.2) (iQ q1.2) 0 = nI (iM i2) := by
          rw [opI, qq1, if_pos (by omega), Nat.sub_zero, Nat.add_sub_cancel, oo1, pk_us, hM]
        -- the inner stretch
        generalize hq2 : csG ki kr ku mpC mb mo mc mm bs (p - (f + 1)) (f + 1) q1 = q2
        generalize hj2 : (if zr k = true then j1 else tkG pk zr mp mz g (f + 1) p k (nI (iM i2)) j1) = j2
        have hin2 : Kp q1 q2 ∧ Kr j1 j2 ∧ Nw (iM j1) q2 j2 ∧ iM j2 ≤ iM j1 + (p - (f + 1)) := by
          by_cases z : zr k = true
          · rw [if_pos z] at hj2
            rw [cs_raw _ _ _ (by rw [hH1]; exact hraw k (by omega) z) (by rw [hT1]; omega)] at hq2
            subst hq2 hj2
            exact ⟨Kp_refl _, Kr_refl _, ⟨by omega, fun k' g1 g2 => absurd g2 (by omega)⟩, by omega⟩
          · rw [if_neg z] at hj2
            have := seg hmm hmp hV hpk hpv hraw g (f + 1) p k q1 j1 (p3 (ts_nt z)) (by omega) (by omega) (by omega) (by omega) ho1 hT1 hH1
            rw [hP1, hq2, hj2] at this
            exact this
        obtain ⟨b1, b2, b3, b4⟩ := hin2
        obtain ⟨t2, h2, -⟩ := Kp_T (mm := mm) b1 ho1 (by omega)
        obtain ⟨b11, b12, b13, b14, b15⟩ := b1
        -- the finish
        have hs2 : csS ki kr ku mpC mb mo mc mm bs p q2 = (q2.1, fnI (mb p) 0 q2.2) := by
          rw [csS, t2, hT1, if_pos rfl]
        generalize hq3 : ((q2.1, fnI (mb p) 0 q2.2) : (Nat → Int32) × IS) = q3 at hs2
        have m3 : iM q3.2 = iM q2.2 := by rw [← hq3]; rfl
        have hcl : (iO q2.2 (iQ q2.2 - 1)).toNatClampNeg = iM q.2 := by
          rw [b12, qq1, Nat.add_sub_cancel, b13 _ (by omega), oo1, pk_us, nI_clamp (by omega)]
        have e3 : ∀ x, iE q3.2 x = upd (iE q2.2) (iM q.2) (mb p) x ∧ iT q3.2 x = upd (iT q2.2) (iM q.2) 0 x := fun x => by
          rw [← hq3]
          show upd (iE q2.2) (iO q2.2 (iQ q2.2 - 1)).toNatClampNeg (mb p) x = _ ∧ upd (iT q2.2) (iO q2.2 (iQ q2.2 - 1)).toNatClampNeg 0 x = _
          rw [hcl]
          exact ⟨rfl, rfl⟩
        have f3 : ∀ x, q3.1 x = q2.1 x ∧ iK q3.2 x = iK q2.2 x ∧ iA q3.2 x = iA q2.2 x ∧ iP q3.2 x = iP q2.2 x ∧ iO q3.2 x = iO q2.2 x := fun x => by
          rw [← hq3]
          exact ⟨rfl, rfl, rfl, rfl, rfl⟩
        have qq3 : iQ q3.2 = iQ q.2 := by
          rw [← hq3]
          show iQ q2.2 - 1 = _
          rw [b12, qq1]
          omega
        have r3 : iR q3.2 = iR q.2 := by
          have : iR q3.2 = iR q2.2 := by rw [← hq3]; rfl
          rw [this, b14, ← hq1]; rfl
        have k3 : Kp q q3 := by
          refine ⟨by omega, qq3, fun x hx => ?_, r3, fun x hx => ?_⟩
          · rw [(f3 x).2.2.2.2, b13 x (by omega), oo1, pk_un (by omega)]
          · have hx1 := b15 x (by omega)
            have g1 : q1.1 x = q.1 x ∧ iK q1.2 x = iK q.2 x ∧ iA q1.2 x = iA q.2 x ∧ iE q1.2 x = iE q.2 x ∧ iT q1.2 x = iT q.2 x ∧ iP q1.2 x = iP q.2 x := by
              rw [← hq1]
              show upd q.1 (iM q.2) (nI p) x = _ ∧ upd (iK q.2) (iM q.2) (nI k) x = _ ∧ upd (iA q.2) (iM q.2) (mpC f) x = _ ∧ iE q.2 x = _ ∧ iT q.2 x = _ ∧ upd (iP q.2) (iM q.2) _ x = _
              rw [pk_un (by omega), pk_un (by omega), pk_un (by omega), pk_un (by omega)]
              exact ⟨rfl, rfl, rfl, rfl, rfl, rfl⟩
            rw [(f3 x).1, (f3 x).2.1, (f3 x).2.2.1, (f3 x).2.2.2.1, (e3 x).1, (e3 x).2, pk_un (by omega), pk_un (by omega), hx1.1, hx1.2.1, hx1.2.2.1, hx1.2.2.2.1, hx1.2.2.2.2.1, hx1.2.2.2.2.2]
            exact g1
        obtain ⟨T3, H3, O3⟩ := Kp_T (mm := mm) k3 ho (by omega)
        have hj2q : iM q2.2 = iM j2 := b3.1
        have ih := seg hmm hmp hV hpk hpv hraw g (p + 1) t s q3 j2 v (by omega) (by omega) (by omega) (by omega) (fun x hx => by
          rw [qq3] at hx
          obtain ⟨t', t1, t2⟩ := ho x hx
          rw [k3.2.2.1 x hx]
          exact ⟨t', by omega, t2⟩) (by rw [T3, hT]) (by rw [H3, hH])
        rw [O3, hpar] at ih
        have hcs : csG ki kr ku mpC mb mo mc mm bs (t - f) f q = csG ki kr ku mpC mb mo mc mm bs (t - (p + 1)) (p + 1) q3 := by
          rw [show t - f = ((p - (f + 1)) + (t - p)) + 1 by omega, csG, hstep, csG_add, hq2, show f + 1 + (p - (f + 1)) = p by omega, show t - p = (t - (p + 1)) + 1 by omega, csG, hs2]
        rw [hcs]
        generalize csG ki kr ku mpC mb mo mc mm bs (t - (p + 1)) (p + 1) q3 = q4 at ih ⊢
        generalize tkG pk zr mp mz g (p + 1) t s par j2 = j4 at ih ⊢
        obtain ⟨c1, c2, c3, c4⟩ := ih
        obtain ⟨b21, b22, b23⟩ := b2
        have g1 : ∀ x, x < iM i2 → iK j1 x = iK i2 x ∧ iA j1 x = iA i2 x ∧ iE j1 x = iE i2 x ∧ iT j1 x = iT i2 x ∧ iP j1 x = iP i2 x := fun x hx => by
          rw [← hj1]
          show upd (iK i2) (iM i2) _ x = _ ∧ upd (iA i2) (iM i2) _ x = _ ∧ upd (iE i2) (iM i2) _ x = _ ∧ upd (iT i2) (iM i2) _ x = _ ∧ upd (iP i2) (iM i2) _ x = _
          rw [pk_un (by omega), pk_un (by omega), pk_un (by omega), pk_un (by omega), pk_un (by omega)]
          exact ⟨rfl, rfl, rfl, rfl, rfl⟩
        refine ⟨⟨by have := k3.1; have := c1.1; omega, by rw [c1.2.1, qq3], fun x hx => by rw [c1.2.2.1 x (by omega), k3.2.2.1 x hx], by rw [c1.2.2.2.1, r3], fun x hx => ?_⟩, ⟨by have := c2.1; omega, ?_, fun x hx => ?_⟩, ⟨c3.1, fun x hx1 hx2 => ?_⟩, by omega⟩
        · have d1 := c1.2.2.2.2 x (by have := k3.1; omega)
          have d2 := k3.2.2.2.2 x hx
          rw [d1.1, d1.2.1, d1.2.2.1, d1.2.2.2.1, d1.2.2.2.2.1, d1.2.2.2.2.2]
          exact d2
        · rw [c2.2.1, b22, ← hj1]
          rfl
        · have d1 := c2.2.2 x (by omega)
          have d2 := b23 x (by omega)
          rw [d1.1, d1.2.1, d1.2.2.1, d1.2.2.2.1, d1.2.2.2.2, d2.1, d2.2.1, d2.2.2.1, d2.2.2.2.1, d2.2.2.2.2]
          exact g1 x hx
        · by_cases x3 : iM j2 ≤ x
          · exact c3.2 x x3 hx2
          · have d1 := c1.2.2.2.2 x (by omega)
            have d2 := c2.2.2 x (by omega)
            rw [d1.2.1, d1.2.2.1, d1.2.2.2.1, d1.2.2.2.2.1, d1.2.2.2.2.2, d2.1, d2.2.1, d2.2.2.1, d2.2.2.2.1, d2.2.2.2.2, (f3 x).2.1, (f3 x).2.2.1, (f3 x).2.2.2.1, (e3 x).1, (e3 x).2]
            by_cases x1 : iM j1 ≤ x
            · rw [pk_un (by omega), pk_un (by omega)]
              exact b3.2 x x1 (by omega)
            · have ex : x = iM q.2 := by omega
              have d3 := b15 x (by omega)
              have d4 := b23 x (by omega)
              rw [d3.2.1, d3.2.2.1, d3.2.2.2.2.2, d4.1, d4.2.1, d4.2.2.1, d4.2.2.2.1, d4.2.2.2.2, ← hq1, ← hj1]
              show upd (iK q.2) (iM q.2) (nI k) x = upd (iK i2) (iM i2) (nI k) x ∧ upd (iA q.2) (iM q.2) (mpC f) x = upd (iA i2) (iM i2) (nI (mp f)) x ∧ upd (iE q2.2) (iM q.2) (mb p) x = upd (iE i2) (iM i2) (nI (mp p + mz p)) x ∧ upd (iT q2.2) (iM q.2) 0 x = upd (iT i2) (iM i2) 0 x ∧ upd (iP q.2) (iM q.2) (opI (iO q.2) (iQ q.2) 0) x = upd (iP i2) (iM i2) par x
              rw [← hM, ex, pk_us, pk_us, pk_us, pk_us, pk_us, pk_us, pk_us, pk_us, pk_us, pk_us, (hmp f (by omega)).1, (hmp p (by omega)).2, hpar]
              exact ⟨rfl, rfl, rfl, rfl, rfl⟩
    · rw [if_neg e, show t - f = 0 by omega, csG]
      exact ⟨Kp_refl q, Kr_refl i2, ⟨hM, fun k g1 g2 => absurd g2 (by omega)⟩, by omega⟩
end
