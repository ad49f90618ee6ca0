/-! THEORY 9: the class's table holds the same, where it is asked -/
section
variable {kr ku : Int32} {ki mo mc : Nat → Int32} {zr zo : Nat → Bool} {mm : Nat} {PP : Nat → Nat → Nat → Nat → Nat → Prop} {un : Nat → Nat}
theorem bt_not {x : Int32} {i : Nat} (hi : i < 32) : bt (x ^^^ (-1)) i = !bt x i := by
  rw [b_xor, b_m1 i hi]
  cases bt x i <;> rfl
theorem fBtG_min {bs : Nat → Int64} {f p : Nat} {pd : Int32} : ∀ (n k z : Nat), k + n = 6 → fBtG kr bs f p pd n k z ≤ z ∧ (∀ k', k ≤ k' → k' < 6 → bt pd k' = true → fBtG kr bs f p pd n k z ≤ fIn kr bs f p k') ∧ (fBtG kr bs f p pd n k z = z ∨ ∃ k', k' < 6 ∧ bt pd k' = true ∧ fBtG kr bs f p pd n k z = fIn kr bs f p k')
  | 0, k, z, h => ⟨Nat.le_refl _, fun k' g1 g2 _ => absurd g2 (by omega), Or.inl rfl⟩
  | n + 1, k, z, h => by
    rw [fBtG, hk_bt pd (by omega)]
    by_cases c : bt pd k = true
    · rw [if_pos c]
      obtain ⟨i1, i2, i3⟩ := fBtG_min (bs := bs) (f := f) (p := p) (pd := pd) n (k + 1) (mn z (fIn kr bs f p k)) (by omega)
      refine ⟨Nat.le_trans i1 mn_le, fun k' g1 g2 g3 => ?_, ?_⟩
      · by_cases e : k' = k
        · subst e; exact Nat.le_trans i1 mn_r
        · exact i2 k' (by omega) g2 g3
      · rcases i3 with y | y
        · rcases mn_or (x := z) (y := fIn kr bs f p k) with w | ⟨w, -⟩
          · exact Or.inl (y.trans w)
          · exact Or.inr ⟨k, by omega, c, y.trans w⟩
        · exact Or.inr y
    · rw [if_neg c]
      obtain ⟨i1, i2, i3⟩ := fBtG_min (bs := bs) (f := f) (p := p) (pd := pd) n (k + 1) z (by omega)
      refine ⟨i1, fun k' g1 g2 g3 => ?_, i3⟩
      by_cases e : k' = k
      · subst e; exact absurd g3 c
      · exact i2 k' (by omega) g2 g3
theorem fIoG_min {bs : Nat → Int64} {f t h : Nat} {od : Int32} : ∀ (n p z : Nat), p + n = t → fIoG kr mc bs f t h od n p z ≤ z ∧ (∀ p', p ≤ p' → p' < t → ¬ (od &&& mc p') = 0 → fIoG kr mc bs f t h od n p z ≤ fN bs (p' + 1) t h + fBt kr bs f p' (od &&& mc p')) ∧ (fIoG kr mc bs f t h od n p z = z ∨ ∃ p', p ≤ p' ∧ p' < t ∧ ¬ (od &&& mc p') = 0 ∧ fIoG kr mc bs f t h od n p z = fN bs (p' + 1) t h + fBt kr bs f p' (od &&& mc p'))
  | 0, p, z, h1 => ⟨Nat.le_refl _, fun p' g1 g2 _ => absurd g2 (by omega), Or.inl rfl⟩
  | n + 1, p, z, h1 => by
    rw [fIoG]
    by_cases hz : z = 0
    · rw [if_pos hz]
      exact ⟨Nat.le_refl _, fun p' _ _ _ => by omega, Or.inl rfl⟩
    · rw [if_neg hz]
      by_cases c : (od &&& mc p) = 0
      · rw [if_pos c]
        obtain ⟨i1, i2, i3⟩ := fIoG_min (bs := bs) (f := f) (t := t) (h := h) (od := od) n (p + 1) z (by omega)
        refine ⟨i1, fun p' g1 g2 g3 => ?_, ?_⟩
        · by_cases e : p' = p
          · subst e; exact absurd c g3
          · exact i2 p' (by omega) g2 g3
        · rcases i3 with y | ⟨p', y1, y2⟩
          · exact Or.inl y
          · exact Or.inr ⟨p', by omega, y2⟩
      · rw [if_neg c]
        obtain ⟨i1, i2, i3⟩ := fIoG_min (bs := bs) (f := f) (t := t) (h := h) (od := od) n (p + 1) (mn z (fN bs (p + 1) t h + fBt kr bs f p (od &&& mc p))) (by omega)
        refine ⟨Nat.le_trans i1 mn_le, fun p' g1 g2 g3 => ?_, ?_⟩
        · by_cases e : p' = p
          · subst e; exact Nat.le_trans i1 mn_r
          · exact i2 p' (by omega) g2 g3
        · rcases i3 with y | ⟨p', y1, y2⟩
          · rcases mn_or (x := z) (y := fN bs (p + 1) t h + fBt kr bs f p (od &&& mc p)) with w | ⟨w, -⟩
            · exact Or.inl (y.trans w)
            · exact Or.inr ⟨p, Nat.le_refl _, by omega, c, y.trans w⟩
          · exact Or.inr ⟨p', by omega, y2⟩
/-- the pairs, by bits -/
def hPb (ki mo mc : Nat → Int32) (kr ku : Int32) (mm : Nat) (PP : Nat → Nat → Nat → Nat → Nat → Prop) : Prop := ∀ f t s k p, t ≤ mm → s ≤ 6 → (PP f t s k p ↔ k < 6 ∧ f < p ∧ p < t ∧ bt ((mo f &&& alw ki kr ku (nI s)) &&& mc p) k = true)
theorem fsV_eq (hR : ∀ k, k < 6 → bt kr k = zr k) (hPP : hPb ki mo mc kr ku mm PP) (hmo : ∀ x, x < mm → m6 (mo x)) (hmm : mm ≤ 48) (hU : rAll zr PP mm 0 un) {bs : Nat → Int64} {f t h : Nat} (hft : f < t) (ht : t ≤ mm) (hh : h ≤ 6)
    (hdep : ∀ p k, p < t → k < 6 → bt (mc p) k = true → zr k = false → ∀ f', f' ≤ p → fN bs f' p k = un (atN f' p k)) (hrow : ∀ f', f < f' → f' ≤ t → fN bs f' t h = un (atN f' t h)) : fsV kr mo mc t h (alw ki kr ku (nI h)) bs f = un (atN f t h) := by
  have hu := hU f t h (Nat.zero_le _) (by omega) ht hh
  have hu1 := (hU (f + 1) t h (Nat.zero_le _) (by omega) ht hh).1
  refine isMn_uniq ?_ (hu.2 hft)
  have e1 := hrow (f + 1) (by omega) (by omega)
  have hin : ∀ k p, k < 6 → f < p → p < t → bt (mc p) k = true → fIn kr bs f p k + fN bs (p + 1) t h = prM zr un f p k t h := by
    intro k p k1 k2 k3 k4
    rw [fIn, prM, hk_bt kr (by omega), hR k k1, hrow (p + 1) (by omega) (by omega)]
    cases hz : zr k with
    | true => rw [if_pos rfl, if_pos rfl]
    | false => rw [if_neg Bool.false_ne_true, if_neg Bool.false_ne_true, hdep p k k3 k1 k4 hz (f + 1) (by omega)]
  rw [fsV, e1]
  by_cases c : (mo f &&& alw ki kr ku (nI h)) = 0
  · rw [if_pos c]
    refine ⟨Nat.le_refl _, fun k p hp => ?_, Or.inl rfl⟩
    obtain ⟨k1, k2, k3, k4⟩ := (hPP f t h k p ht hh).mp hp
    rw [c, b_and, bt_0] at k4
    cases k4
  · rw [if_neg c]
    obtain ⟨i1, i2, i3⟩ := fIoG_min (kr := kr) (mc := mc) (bs := bs) (f := f) (t := t) (h := h) (od := mo f &&& alw ki kr ku (nI h)) (t - (f + 1)) (f + 1) 48 (by omega)
    have hfio : fIoG kr mc bs f t h (mo f &&& alw ki kr ku (nI h)) (t - (f + 1)) (f + 1) 48 = fIo kr mc bs f t h (mo f &&& alw ki kr ku (nI h)) := rfl
    rw [hfio] at i1 i2 i3
    generalize fIo kr mc bs f t h (mo f &&& alw ki kr ku (nI h)) = v at *
    have m6x : ∀ p, m6 ((mo f &&& alw ki kr ku (nI h)) &&& mc p) := fun p => m6_and (m6_and (hmo f (by omega)))
    refine ⟨mn_le, fun k p hp => ?_, ?_⟩
    · obtain ⟨k1, k2, k3, k4⟩ := (hPP f t h k p ht hh).mp hp
      have hbm : bt (mc p) k = true := by rw [b_and] at k4; simp only [Bool.and_eq_true] at k4; exact k4.2
      have g1 := i2 p (by omega) k3 ((m6_nz (m6x p)).mpr ⟨k, k1, k4⟩)
      have g2 := (fBtG_min (kr := kr) (bs := bs) (f := f) (p := p) (pd := (mo f &&& alw ki kr ku (nI h)) &&& mc p) 6 0 48 rfl).2.1 k (by omega) k1 k4
      have g3 := hin k p k1 k2 k3 hbm
      have g4 : mn (1 + un (atN (f + 1) t h)) v ≤ v := mn_r
      have g5 : fBt kr bs f p ((mo f &&& alw ki kr ku (nI h)) &&& mc p) = fBtG kr bs f p ((mo f &&& alw ki kr ku (nI h)) &&& mc p) 6 0 48 := rfl
      show mn (1 + un (atN (f + 1) t h)) v ≤ prM zr un f p k t h
      omega
    · rcases mn_or (x := 1 + un (atN (f + 1) t h)) (y := v) with y | ⟨y, ylt⟩
      · exact Or.inl y
      · rcases i3 with z | ⟨p, p1, p2, p3, p4⟩
        · omega
        · obtain ⟨-, -, q3⟩ := fBtG_min (kr := kr) (bs := bs) (f := f) (p := p) (pd := (mo f &&& alw ki kr ku (nI h)) &&& mc p) 6 0 48 rfl
          have g5 : fBt kr bs f p ((mo f &&& alw ki kr ku (nI h)) &&& mc p) = fBtG kr bs f p ((mo f &&& alw ki kr ku (nI h)) &&& mc p) 6 0 48 := rfl
          rcases q3 with w | ⟨k, w1, w2, w3⟩
          · omega
          · have hbm : bt (mc p) k = true := by rw [b_and] at w2; simp only [Bool.and_eq_true] at w2; exact w2.2
            have g3 := hin k p w1 (by omega) p2 hbm
            refine Or.inr ⟨k, p, (hPP f t h k p ht hh).mpr ⟨w1, by omega, p2, w2⟩, ?_⟩
            show mn (1 + un (atN (f + 1) t h)) v = prM zr un f p k t h
            omega
/-- done up to mark m -/
def tDep (mc : Nat → Int32) (zr : Nat → Bool) (un : Nat → Nat) (m : Nat) (bs : Nat → Int64) : Prop := ∀ p k, p < m → k < 6 → bt (mc p) k = true → zr k = false → ∀ f, f ≤ p → fN bs f p k = un (atN f p k)
theorem fsTG_ok (hR : ∀ k, k < 6 → bt kr k = zr k) (hPP : hPb ki mo mc kr ku mm PP) (hmo : ∀ x, x < mm → m6 (mo x)) (hmm : mm ≤ 48) (hU : rAll zr PP mm 0 un) {t h : Nat} (ht : t ≤ mm) (hh : h ≤ 6) : ∀ (m : Nat) (bs : Nat → Int64), m ≤ t → tDep mc zr un t bs → (∀ f, m ≤ f → f ≤ t → fN bs f t h = un (atN f t h)) → (∀ f, f ≤ t → fN (fsTG kr mo mc t h (alw ki kr ku (nI h)) m bs) f t h = un (atN f t h)) ∧ ∀ f' t' h', t' ≤ 48 → h' ≤ 6 → ¬ (t' = t ∧ h' = h) → fN (fsTG kr mo mc t h (alw ki kr ku (nI h)) m bs) f' t' h' = fN bs f' t' h'
  | 0, bs, hm, hd, hr => ⟨fun f hf => hr f (Nat.zero_le _) hf, fun _ _ _ _ _ _ => rfl⟩
  | m + 1, bs, hm, hd, hr => by
    rw [fsTG]
    have hv := fsV_eq hR hPP hmo hmm hU (f := m) (by omega) ht hh hd (fun f' g1 g2 => hr f' (by omega) g2)
    have hb := (hU m t h (Nat.zero_le _) (by omega) ht hh).1
    rw [hv]
    have hk1 : ∀ f' t' h', t' ≤ 48 → h' ≤ 6 → fN (kp bs m t h (un (atN m t h))) f' t' h' = if f' = m ∧ t' = t ∧ h' = h then un (atN m t h) else fN bs f' t' h' := fun f' t' h' g1 g2 => fN_kp bs (by omega) g1 hh g2 (by omega)
    obtain ⟨i1, i2⟩ := fsTG_ok hR hPP hmo hmm hU ht hh m (kp bs m t h (un (atN m t h))) (by omega) (fun p k p1 p2 p3 p4 f hf => by rw [hk1 f p k (by omega) (by omega), if_neg (by omega)]; exact hd p k p1 p2 p3 p4 f hf) (fun f g1 g2 => by
      rw [hk1 f t h (by omega) hh]
      by_cases e : f = m
      · subst e; rw [if_pos ⟨rfl, rfl, rfl⟩]
      · rw [if_neg (fun z => e z.1)]; exact hr f (by omega) g2)
    refine ⟨i1, fun f' t' h' g1 g2 g3 => ?_⟩
    rw [i2 f' t' h' g1 g2 g3, hk1 f' t' h' g1 g2, if_neg (fun z => g3 z.2)]
theorem fsT_ok (hR : ∀ k, k < 6 → bt kr k = zr k) (hPP : hPb ki mo mc kr ku mm PP) (hmo : ∀ x, x < mm → m6 (mo x)) (hmm : mm ≤ 48) (hU : rAll zr PP mm 0 un) {t h : Nat} (ht : t ≤ mm) (hh : h ≤ 6) {bs : Nat → Int64} (hd : tDep mc zr un t bs) : (∀ f, f ≤ t → fN (fsT kr mo mc t h (alw ki kr ku (nI h)) bs) f t h = un (atN f t h)) ∧ ∀ f' t' h', t' ≤ 48 → h' ≤ 6 → ¬ (t' = t ∧ h' = h) → fN (fsT kr mo mc t h (alw ki kr ku (nI h)) bs) f' t' h' = fN bs f' t' h' := by
  have hb := (hU t t h (Nat.zero_le _) (by omega) ht hh).1
  have hk1 : ∀ f' t' h', t' ≤ 48 → h' ≤ 6 → fN (kp bs t t h 0) f' t' h' = if f' = t ∧ t' = t ∧ h' = h then 0 else fN bs f' t' h' := fun f' t' h' g1 g2 => fN_kp bs (by omega) g1 hh g2 (by omega)
  obtain ⟨i1, i2⟩ := fsTG_ok hR hPP hmo hmm hU ht hh t (kp bs t t h 0) (Nat.le_refl _) (fun p k p1 p2 p3 p4 f hf => by rw [hk1 f p k (by omega) (by omega), if_neg (by omega)]; exact hd p k p1 p2 p3 p4 f hf) (fun f g1 g2 => by
    have : f = t := by omega
    subst this
    rw [hk1 f f h (by omega) hh, if_pos ⟨rfl, rfl, rfl⟩]
    omega)
  exact ⟨i1, fun f' t' h' g1 g2 g3 => by rw [fsT, i2 f' t' h' g1 g2 g3, hk1 f' t' h' g1 g2, if_neg (fun z => g3 z.2)]⟩
theorem fsKG_ok (hR : ∀ k, k < 6 → bt kr k = zr k) (hPP : hPb ki mo mc kr ku mm PP) (hmo : ∀ x, x < mm → m6 (mo x)) (hmm : mm ≤ 48) (hU : rAll zr PP mm 0 un) {t : Nat} (ht : t < mm) : ∀ (m k : Nat) (bs : Nat → Int64), k + m = 6 → tDep mc zr un t bs → (∀ k', k' < k → bt (mc t) k' = true → zr k' = false → ∀ f, f ≤ t → fN bs f t k' = un (atN f t k')) → tDep mc zr un (t + 1) (fsKG ki kr ku mo mc (mc t &&& (kr ^^^ (-1))) t m k bs)
  | 0, k, bs, h1, hd, hk9 => by
    rw [fsKG]
    intro p k' p1 p2 p3 p4 f hf
    by_cases e : p = t
    · subst e; exact hk9 k' (by omega) p3 p4 f hf
    · exact hd p k' (by omega) p2 p3 p4 f hf
  | m + 1, k, bs, h1, hd, hk9 => by
    rw [fsKG]
    have hb : hk (mc t &&& (kr ^^^ (-1))) (nI k) = (bt (mc t) k && !zr k) := by rw [hk_bt _ (by omega), b_and, bt_not (by omega), hR k (by omega)]
    rw [hb]
    by_cases c : (bt (mc t) k && !zr k) = true
    · rw [if_pos c]
      obtain ⟨i1, i2⟩ := fsT_ok hR hPP hmo hmm hU (t := t) (h := k) (by omega) (by omega) hd
      refine fsKG_ok hR hPP hmo hmm hU ht m (k + 1) _ (by omega) (fun p k' p1 p2 p3 p4 f hf => by rw [i2 f p k' (by omega) (by omega) (by omega)]; exact hd p k' p1 p2 p3 p4 f hf) (fun k' g1 g2 g3 f hf => ?_)
      by_cases e : k' = k
      · subst e; exact i1 f hf
      · rw [i2 f t k' (by omega) (by omega) (fun z => e z.2)]
        exact hk9 k' (by omega) g2 g3 f hf
    · rw [if_neg c]
      refine fsKG_ok hR hPP hmo hmm hU ht m (k + 1) _ (by omega) hd (fun k' g1 g2 g3 f hf => ?_)
      by_cases e : k' = k
      · subst e
        exact absurd (by rw [g2, g3]; rfl) c
      · exact hk9 k' (by omega) g2 g3 f hf
theorem fsAG_ok (hR : ∀ k, k < 6 → bt kr k = zr k) (hPP : hPb ki mo mc kr ku mm PP) (hmo : ∀ x, x < mm → m6 (mo x)) (hmm : mm ≤ 48) (hU : rAll zr PP mm 0 un) : ∀ (m t : Nat) (bs : Nat → Int64), t + m = mm → tDep mc zr un t bs → tDep mc zr un mm (fsAG ki kr ku mo mc m t bs)
  | 0, t, bs, h1, hd => by
    have : t = mm := by omega
    subst this
    exact hd
  | m + 1, t, bs, h1, hd => by
    rw [fsAG]
    exact fsAG_ok hR hPP hmo hmm hU m (t + 1) _ (by omega) (fsKG_ok hR hPP hmo hmm hU (by omega) 6 0 bs rfl hd (fun k' g => absurd g (Nat.not_lt_zero k')))
theorem fsAll_ok (hR : ∀ k, k < 6 → bt kr k = zr k) (hPP : hPb ki mo mc kr ku mm PP) (hmo : ∀ x, x < mm → m6 (mo x)) (hmm : mm ≤ 48) (hU : rAll zr PP mm 0 un) (bs : Nat → Int64) : tDep mc zr un mm (fsAll ki kr ku mo mc mm bs) ∧ ∀ f, f ≤ mm → fN (fsAll ki kr ku mo mc mm bs) f mm 6 = un (atN f mm 6) := by
  have hd := fsAG_ok hR hPP hmo hmm hU mm 0 bs (by omega) (fun p k p1 => absurd p1 (Nat.not_lt_zero p))
  obtain ⟨i1, i2⟩ := fsT_ok hR hPP hmo hmm hU (t := mm) (h := 6) (Nat.le_refl _) (Nat.le_refl _) hd
  exact ⟨fun p k p1 p2 p3 p4 f hf => by
    have := i2 f p k (by omega) (by omega) (by omega)
    exact this.trans (hd p k p1 p2 p3 p4 f hf), i1⟩
end
