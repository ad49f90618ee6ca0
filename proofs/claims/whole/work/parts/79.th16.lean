/-! THEORY 16: words set, readings made, questions asked -/
theorem wkm_wbt (y : Int32) {k : Nat} (hk9 : k < 4) : wkm y k = wbt y k := b_ext (fun i hi => by
  rw [wkm, wbt, b_and, b_and, b_255, b_sshr (8 * k) (by omega) _ hi, b_ushr (8 * k) (by omega)]
  by_cases h : i < 8
  · rw [if_pos (by omega)]
  · rw [decide_eq_false h, Bool.and_false, Bool.and_false])
theorem swT_iff {y : Int32} : ∀ (f k : Nat), swT y f k = 0 ↔ ∀ j, k ≤ j → j < k + f → txB (wkm y j) = true
  | 0, k => ⟨fun _ j h1 h2 => absurd h2 (by omega), fun _ => rfl⟩
  | f + 1, k => by
    rw [swT]
    by_cases c : txB (wkm y k) = true
    · rw [if_pos c, swT_iff f (k + 1)]
      constructor
      · intro h j h1 h2
        by_cases e : j = k
        · rw [e]; exact c
        · exact h j (by omega) (by omega)
      · intro h j h1 h2
        exact h j (by omega) (by omega)
    · rw [if_neg c]
      constructor
      · intro h; exact absurd h (by decide)
      · intro h; exact absurd (h k (by omega) (by omega)) c
theorem swG_some {y : Int32} {q : Nat} (hq : q ≤ 3) : ∀ (k : Nat) (w : Int32), k ≤ q → (∀ j, j < k → txB (wkm y j) = true) → swG y k w = some (pkW (fun i => wkm y (q - 1 - i)) k (q - k) w)
  | 0, w, _, _ => rfl
  | k + 1, w, hk9, h => by
    rw [swG, ← wkm_wbt y (by omega), if_pos (h k (by omega)), swG_some hq k _ (by omega) (fun j hj => h j (by omega)), pkW, show q - (k + 1) + 1 = q - k by omega, show q - 1 - (q - (k + 1)) = k by omega]
theorem swG_none {y : Int32} {j : Nat} : ∀ (k : Nat) (w : Int32), k ≤ 3 → j < k → ¬ txB (wkm y j) = true → swG y k w = none
  | 0, _, _, hj, _ => absurd hj (Nat.not_lt_zero j)
  | k + 1, w, h3, hj, h => by
    rw [swG, ← wkm_wbt y (by omega)]
    by_cases c : txB (wkm y k) = true
    · rw [if_pos c]
      have : j ≠ k := fun e => h (by rw [e]; exact c)
      exact swG_none k _ (by omega) (by omega) h
    · rw [if_neg c]
theorem zwG_out {y : Int32} {q w x : Nat} : ∀ (m k : Nat) (f : Nat → Int32), (∀ j, k ≤ j → j < k + m → x ≠ 3 * w + j) → zwG y q w m k f x = f x
  | 0, _, _, _ => rfl
  | m + 1, k, f, h => by
    rw [zwG, zwG_out m (k + 1) _ (fun j h1 h2 => h j (by omega) (by omega)), pk_un (h k (by omega) (by omega))]
theorem zwG_in {y : Int32} {q w j : Nat} : ∀ (m k : Nat) (f : Nat → Int32), k ≤ j → j < k + m → zwG y q w m k f (3 * w + j) = wkm y (q - 1 - j)
  | 0, _, _, h1, h2 => absurd h2 (by omega)
  | m + 1, k, f, h1, h2 => by
    rw [zwG]
    by_cases e : j = k
    · subst e
      rw [zwG_out m (j + 1) _ (fun j' g1 g2 => by omega), pk_us]
    · exact zwG_in m (k + 1) _ (by omega) (by omega)
theorem wRel_set {ko kc : Nat → Int32} {zs : Nat → Nat} {zw : Nat → Int32} (hW : wRel ko kc zs zw) {y : Int32} {k q : Nat} (v : Bool) (hk9 : k < 6) (hq : q ≤ 3) (htx : ∀ j, j < q → txB (wkm y j) = true) : wRel (if v = true then ko else upd ko k (pkW (fun i => wkm y (q - 1 - i)) q 0 0)) (if v = true then upd kc k (pkW (fun i => wkm y (q - 1 - i)) q 0 0) else kc) (updN zs (if v = true then 6 + k else k) q) (zwG y q (if v = true then 6 + k else k) q 0 zw) := by
  generalize hw : (if v = true then 6 + k else k) = w0
  have hw12 : w0 < 12 := by rw [← hw]; split <;> omega
  have hN : ∀ w, w ≠ w0 → updN zs w0 q w = zs w := fun w h => by rw [updN, if_neg h]
  have hM : updN zs w0 q w0 = q := by rw [updN, if_pos rfl]
  have hZ : ∀ w j, w ≠ w0 → j < 3 → zwG y q w0 q 0 zw (3 * w + j) = zw (3 * w + j) := fun w j h h3 => zwG_out q 0 zw (fun j' g1 g2 => by omega)
  have hY : ∀ j, j < q → zwG y q w0 q 0 zw (3 * w0 + j) = wkm y (q - 1 - j) := fun j hj => zwG_in q 0 zw (by omega) (by omega)
  have hP : ∀ w, w ≠ w0 → pkW (zwG y q w0 q 0 zw) (updN zs w0 q w) (3 * w) 0 = pkW zw (zs w) (3 * w) 0 := fun w h => by
    rw [hN w h]
    exact pkW_congr _ _ _ _ (fun j hj => hZ w j h (by have := hW.1 w; omega))
  have hPw : pkW (zwG y q w0 q 0 zw) (updN zs w0 q w0) (3 * w0) 0 = pkW (fun i => wkm y (q - 1 - i)) q 0 0 := by
    rw [hM]
    exact pkW_congr _ _ _ _ (fun j hj => by rw [hY j hj, Nat.zero_add])
  refine ⟨fun w => ?_, fun w hw j hj => ?_, fun k' hk' => ?_⟩
  · by_cases e : w = w0
    · rw [e, hM]; exact hq
    · rw [hN w e]; exact hW.1 w
  · by_cases e : w = w0
    · subst e
      rw [hM] at hj
      rw [hY j hj]
      exact htx _ (by omega)
    · rw [hN w e] at hj
      rw [hZ w j e (by have := hW.1 w; omega)]
      exact hW.2.1 w hw j hj
  · have hk := hW.2.2 k' hk'
    cases v with
    | true =>
      have hw : 6 + k = w0 := hw
      rw [if_pos rfl, if_pos rfl, hP k' (by omega)]
      refine ⟨hk.1, ?_⟩
      by_cases e : k' = k
      · subst e; rw [hw, hPw, pk_us]
      · rw [hP (6 + k') (by omega), pk_un e]; exact hk.2
    | false =>
      have hw : k = w0 := hw
      rw [if_neg Bool.false_ne_true, if_neg Bool.false_ne_true, hP (6 + k') (by omega)]
      refine ⟨?_, hk.2⟩
      by_cases e : k' = k
      · subst e
        rw [pk_us, hw, hPw]
      · rw [hP k' (by omega), pk_un e]; exact hk.1
theorem r_word {S : CS} {T : RS} (h : Rel S T) (x : Int32) (v : Bool) (y z : Int32) : zT (pWord x v y z T) = cd2 xIO (thW x y z) ∧ (thW x y z = none → (bI (cpl (sO (oWord x v y z S)) (sC (oWord x v y z S)) x)).toInt64 = (bI (if swTm x y z = 0 then cplM (updN (zZ T) (swI x v) z.toNatClampNeg) x.toNatClampNeg else false)).toInt64) ∧ Rel (if thW x y z = none then oWord x v y z S else S) (pWord x v y z T) := by
  obtain ⟨h1, h2, h3, h4, h5, h6, h7, h8, h9, h10⟩ := h
  have e := in6_K (x := x)
  rw [thW, thK]
  cases hc : (decide (x < 0) || !decide (x < 6)) with
  | true =>
    rw [hc] at e
    have e2 : swTm x y z = 1 := by rw [swTm, e]; rfl
    have e3 : ¬ swTm x y z = 0 := by rw [e2]; decide
    rw [if_pos rfl]
    have ho : ∀ o : Option String, (some xIO).or o = some xIO := fun _ => rfl
    rw [ho, ifs, cd2_s]
    simp only [pWord, if_neg e3]
    exact ⟨e2, fun z => (nomatch z), h1, h2, h3, h4, h5, h6, h7, h8, h9, h10⟩
  | false =>
    rw [hc] at e
    have e : inB6 x = true := e
    rw [if_neg Bool.false_ne_true]
    have ho : ∀ o : Option String, (none : Option String).or o = o := fun _ => rfl
    rw [ho]
    have bad : ∀ c : Int32, c = swTm x y z → c = 2 → swR y z = none → zT (pWord x v y z T) = cd2 xIO (match swR y z with | none => some xIA | some _ => none) ∧ ((match swR y z with | none => some xIA | some _ => none) = none → (bI (cpl (sO (oWord x v y z S)) (sC (oWord x v y z S)) x)).toInt64 = (bI (if swTm x y z = 0 then cplM (updN (zZ T) (swI x v) z.toNatClampNeg) x.toNatClampNeg else false)).toInt64) ∧ Rel (if (match swR y z with | none => some xIA | some _ => none) = none then oWord x v y z S else S) (pWord x v y z T) := by
      intro c c1 c2 c3
      have e2 : swTm x y z = 2 := c1.symm.trans c2
      have e3 : ¬ swTm x y z = 0 := by rw [e2]; decide
      rw [c3]
      show _ = cd2 xIO (some xIA) ∧ (some xIA = none → _) ∧ Rel (if some xIA = none then _ else _) _
      rw [ifs, cd2_d xne_AO]
      simp only [pWord, if_neg e3]
      exact ⟨e2, fun z => (nomatch z), h1, h2, h3, h4, h5, h6, h7, h8, h9, h10⟩
    have ez := isIn_n2 (x := z) (y := 3)
    cases hz : (decide (z < 0) || !decide (z ≤ 3)) with
    | true =>
      rw [hz] at ez
      have ez2 : ¬ isInB z 0 3 = true := by rw [ez]; exact Bool.false_ne_true
      exact bad 2 (by rw [swTm, if_pos e, if_neg ez2]) rfl (by rw [swR, hz, if_pos rfl])
    | false =>
      rw [hz] at ez
      have ez : isInB z 0 3 = true := ez
      have hz0 : ¬ z < 0 ∧ z ≤ 3 := by
        simp only [Bool.or_eq_false_iff, decide_eq_false_iff_not, Bool.not_eq_false', decide_eq_true_eq] at hz
        exact hz
      obtain ⟨q, hq0, rfl⟩ := nI_of hz0.1
      have hq3 : q ≤ 3 := (nI_leI (b := 3) hq0 (by decide)).mp hz0.2
      have hcq := nI_clamp hq0
      have hsT : swTm x y (nI q) = swT y q 0 := by rw [swTm, if_pos e, if_pos ez, hcq]
      have hsR : swR y (nI q) = swG y q 0 := by rw [swR, hz, if_neg Bool.false_ne_true, hcq]
      by_cases hall : ∀ j, j < q → txB (wkm y j) = true
      · have e2 : swTm x y (nI q) = 0 := by rw [hsT]; exact (swT_iff q 0).mpr (fun j _ hj => hall j (by omega))
        have hs : swR y (nI q) = some (pkW (fun i => wkm y (q - 1 - i)) q 0 0) := by
          rw [hsR, swG_some hq3 q 0 (Nat.le_refl _) hall, Nat.sub_self]
        have hv : swV y (nI q) = pkW (fun i => wkm y (q - 1 - i)) q 0 0 := by rw [swV, hs]; rfl
        have hx0 : ¬ x < 0 ∧ x < 6 := by
          simp only [Bool.or_eq_false_iff, decide_eq_false_iff_not, Bool.not_eq_false', decide_eq_true_eq] at hc
          exact hc
        obtain ⟨k, hk0, rfl⟩ := nI_of hx0.1
        have hk6 : k < 6 := (nI_ltI (b := 6) hk0 (by decide)).mp hx0.2
        have hck := nI_clamp hk0
        have hW2 := wRel_set h7 (y := y) (k := k) (q := q) v hk6 hq3 hall
        have hO : sO (oWord (nI k) v y (nI q) S) = if v = true then sO S else upd (sO S) k (pkW (fun i => wkm y (q - 1 - i)) q 0 0) := by
          show (if v = true then sO S else upd (sO S) (nI k).toNatClampNeg (swV y (nI q))) = _
          rw [hck, hv]
        have hC : sC (oWord (nI k) v y (nI q) S) = if v = true then upd (sC S) k (pkW (fun i => wkm y (q - 1 - i)) q 0 0) else sC S := by
          show (if v = true then upd (sC S) (nI k).toNatClampNeg (swV y (nI q)) else sC S) = _
          rw [hck, hv]
        have hI : swI (nI k) v = if v = true then 6 + k else k := by rw [swI, hck]
        rw [← hO, ← hC, ← hI] at hW2
        rw [hs]
        show _ = cd2 xIO none ∧ (none = none → _) ∧ Rel (if none = none then _ else _) _
        rw [ifn]
        simp only [pWord, if_pos e2]
        refine ⟨e2, fun _ => ?_, h1, h2, h3, h4, h5, h6, ?_, h8, h9, IR_fg h10⟩
        · rw [cpl_eq hW2 hk6, hcq, hck]
        · show wRel (sO (oWord (nI k) v y (nI q) S)) (sC (oWord (nI k) v y (nI q) S)) (updN (zZ T) (swI (nI k) v) (nI q).toNatClampNeg) (zwG y (nI q).toNatClampNeg (swI (nI k) v) (nI q).toNatClampNeg 0 (zW T))
          rw [hcq]
          exact hW2
      · obtain ⟨j, hj⟩ := Classical.not_forall.mp hall
        obtain ⟨hj1, hj2⟩ := Classical.not_imp.mp hj
        refine bad (swTm x y (nI q)) rfl ?_ (by rw [hsR]; exact swG_none q 0 hq3 hj1 hj2)
        rw [hsT]
        rcases swT_02 (y := y) (f := q) (k := 0) with z | z
        · exact absurd ((swT_iff q 0).mp z j (by omega) (by omega)) hj2
        · exact z
/-! readings -/
theorem r_mk {S : CS} {T : RS} (h : Rel S T) : ∃ j, mRel (sB S) (sN S) (sE S) (sO S) (sC S) (zZ T) (zW T) j (oMk S) (pMk T) := by
  obtain ⟨h1, h2, h3, h4, h5, h6, h7, h8, h9, h10⟩ := h
  have := fm_rel (ec := sE S) h7 h9 (sM S).1 (sM S).2.1 (sM S).2.2.1 (sM S).2.2.2.1 (zP T) (zQ T)
  rw [oMk, pMk, ← h1, ← h2, ← h4]
  exact this
theorem r_quick {S : CS} {T : RS} (h : Rel S T) : nI (iM (oQI S)) = nI (iM (setRd (guG (nI (zN T)) (nI 2) (iQ (pQr T)) (pQr T)) true)) ∧ Rel (oQuick S) (pQuick T) := by
  obtain ⟨h1, h2, h3, h4, h5, h6, h7, h8, h9, h10⟩ := h
  have hq := quick_eq (lt := sL S) (ki := sJ S) (ec := sE S) h7 h9 h8 h3 (sI S) (zI T)
  have hs := SI_quick (lt := sL S) (b := sB S) (ec := sE S) (ko := sO S) (kc := sC S) (ki := sJ S) (kr := sR S) (ku := sU S) h3 (sI S)
  have hp : pQr T = mqG (sL S) (sB S) (sN S) (sE S) (zZ T) (zW T) (zR T) (zO T) (sJ S) (sN S) 0 (st0 (zI T)) := by rw [pQr, h1, h2, h4, h5, h6]
  rw [← hp] at hq
  have hq : QE (oQI S) (guG (nI (sN S)) (nI 2) (iQ (pQr T)) (pQr T)) := hq
  have hs : SI (sN S) (oQI S) ∧ iQ (oQI S) = 0 := hs
  rw [h2] at hq
  obtain ⟨q1, q2, q3, q4, q5, q6⟩ := hq
  have hw := WF_SI hs.1 (Nat.le_refl _) hs.2
  refine ⟨by rw [q1]; rfl, h1, h2, h3, h4, h5, h6, h7, h8, h9, q1, hs.1.2.1, q3, hs.1.1, fun k hk9 => ?_, WF_p hw, fun _ => hw⟩
  have g1 := q5 k hk9
  have g2 := q6 k hk9 (fun r hr => absurd hr (by rw [hs.2]; exact Nat.not_lt_zero r))
  exact ⟨g1.1, g1.2.1, g2.1, g2.2, g1.2.2⟩
theorem r_mm {S : CS} {T : RS} (h : Rel S T) : (oMk S).2.2.2.2 = (pMk T).1 ∧ (oMk S).2.2.2.2 ≤ 48 := by
  obtain ⟨j, hj⟩ := r_mk h
  have := mRel_n hj
  have h1 := hj.1
  have h3 := h.2.2.1
  exact ⟨h1, by omega⟩
theorem r_best {S : CS} {T : RS} (h : Rel S T) : nI (oBL S) = nI (iL (pBI T)) ∧ Rel (oBest S) (pBest T) := by
  obtain ⟨j9, hj⟩ := r_mk h
  obtain ⟨h1, h2, h3, h4, h5, h6, h7, h8, h9, h10⟩ := h
  have hmm : (pMk T).1 ≤ 48 := Nat.le_trans (mRel_n hj) h3
  have hU : pU T = cnF (sB S) (sN S) (sE S) (zZ T) (zW T) (zR T) (zO T) (sJ S) (pMk T).2.1 (pMk T).2.2 (pMk T).1 ((pMk T).1 + 1) (zU T) := by rw [pU, h1, h2, h4, h6]
  have hb := best_eq h7 h9 h8 h3 hj hU (b0 := sS S) (bs := oBs S) rfl (sD S) (sI S) (zI T)
  have hcs : csG (sJ S) (sR S) (sU S) (oMk S).1 (oMk S).2.1 (oMk S).2.2.1 (oMk S).2.2.2.1 (oMk S).2.2.2.2 (oBs S) (oMk S).2.2.2.2 0 (sD S, rdI (sI S)) = oBr S := rfl
  rw [hcs] at hb
  have hsi := SI_csG (n := sN S) (ki := sJ S) (kr := sR S) (ku := sU S) (mp := (pMk T).2.1) (mz := (pMk T).2.2) (mpC := (oMk S).1) (mb := (oMk S).2.1) (mo := (oMk S).2.2.1) (mc := (oMk S).2.2.2.1) (mm := (oMk S).2.2.2.2) (bs := oBs S) (by rw [hj.1]; exact hmm) (fun x hx => by
    rw [hj.1] at hx
    exact ⟨(hj.2.1 x hx).1, (hj.2.1 x hx).2.1, (hj.2.2.1 x hx).2.2.2⟩) (fun x hx => by
    rw [hj.1] at hx
    exact hj.2.2.2 x hx) (oMk S).2.2.2.2 0 (sD S, rdI (sI S)) 0 (by omega) (csOk_0 _ _) (Nat.zero_le _) (fun _ => Nat.zero_le _) (SI_rd _)
  rw [hcs] at hsi
  obtain ⟨c, c1, c2⟩ := hsi
  have hp : pBI T = setRd (tkG (pkF (sB S) (sN S) (sE S) (zZ T) (zW T) (zR T) (zO T) (sJ S) (pMk T).2.1 (pMk T).2.2 (pU T)) (zR T) (pMk T).2.1 (pMk T).2.2 48 0 (pMk T).1 6 (-1) (bs0 (zI T) (pU T (atN 0 (pMk T).1 6)))) true := by rw [pBI, bsR, h1, h2, h4, h6]
  generalize tkG (pkF (sB S) (sN S) (sE S) (zZ T) (zW T) (zR T) (zO T) (sJ S) (pMk T).2.1 (pMk T).2.2 (pU T)) (zR T) (pMk T).2.1 (pMk T).2.2 48 0 (pMk T).1 6 (-1) (bs0 (zI T) (pU T (atN 0 (pMk T).1 6))) = J at hb hp
  obtain ⟨b1, b2, b3, b4, b5⟩ := hb
  have hw : WF (sN S) (oBr S).2 := WF_SI c2 c1 b2
  have hw2 : WF (sN S) (oBI S) := hw
  have hL : oBL S = iL (pBI T) := by rw [hp]; exact b4.symm
  refine ⟨by rw [hL], h1, h2, h3, h4, h5, h6, h7, h8, h9, ?_, hw.1, hL, ?_, fun k hk9 => ?_, WF_p hw2, fun _ => hw2⟩
  · show iM (oBr S).2 = iM (pBI T)
    rw [hp]
    exact b1.1
  · show iR (oBr S).2 = iR (pBI T)
    rw [hp]
    exact b3
  · show iK (oBr S).2 k = iK (pBI T) k ∧ iA (oBr S).2 k = iA (pBI T) k ∧ iE (oBr S).2 k = iE (pBI T) k ∧ iT (oBr S).2 k = iT (pBI T) k ∧ iP (oBr S).2 k = iP (pBI T) k
    rw [hp]
    have hk9 : k < iM (oBr S).2 := hk9
    exact b1.2 k (Nat.zero_le _) (by rw [← b1.1]; exact hk9)
theorem r_mark {S : CS} {T : RS} (h : Rel S T) (x : Int32) : zT (pMarkX x T) = cd1 (if (decide (x < 0) || !decide (x < nI (oMk S).2.2.2.2)) = true then some xIO else none) ∧ ((if (decide (x < 0) || !decide (x < nI (oMk S).2.2.2.2)) = true then some xIO else none) = none → ((oMk S).1 x.toNatClampNeg).toInt64 = (if isInB x 0 (nI (pMk T).1 - 1) = true then nI ((pMk T).2.1 x.toNatClampNeg) else 0).toInt64) ∧ Rel (oMark S) (pMarkX x T) := by
  obtain ⟨j9, hj⟩ := r_mk h
  obtain ⟨m1, m2⟩ := r_mm h
  have e : isInB x 0 (nI (pMk T).1 - 1) = !(decide (x < 0) || !decide (x < nI (oMk S).2.2.2.2)) := by rw [← m1, isIn_P m2, hasP_n2]
  refine ⟨?_, fun hn => ?_, h⟩
  · show (if isInB x 0 (nI (pMk T).1 - 1) = true then (0 : Int32) else 1) = _
    rw [e]
    cases (decide (x < 0) || !decide (x < nI (oMk S).2.2.2.2)) <;> rfl
  · rw [e]
    cases hc : (decide (x < 0) || !decide (x < nI (oMk S).2.2.2.2)) with
    | true => rw [hc, if_pos rfl] at hn; cases hn
    | false =>
      simp only [Bool.or_eq_false_iff, decide_eq_false_iff_not, Bool.not_eq_false', decide_eq_true_eq] at hc
      obtain ⟨k, hk0, rfl⟩ := nI_of hc.1
      have hk6 := (nI_ltI hk0 (by omega)).mp hc.2
      rw [nI_clamp hk0, (hj.2.1 k (by omega)).1]
      rfl
/-! questions -/
theorem ask_cd {ir : Bool} {im : Nat} {x : Int32} : askT ir x (nI im) = cd2 xIS (thI ir im x) := by
  rw [askT, thI]
  cases ir with
  | false => exact cd2_s.symm
  | true =>
    rw [if_pos rfl, thR, if_pos rfl]
    cases (decide (x < 0) || !decide (x < nI im)) with
    | true => exact (cd2_d xne_OS).symm
    | false => rfl
theorem ask_0 {ir : Bool} : askT ir 0 1 = cd1 (thR ir) := by
  cases ir
  · rfl
  · exact (by decide : askT true 0 1 = cd1 (thR true))
theorem ask_at {ir : Bool} {n : Nat} {x : Int32} : askT ir x (nI n) = cd2 xIS ((thR ir).or (thP n x)) := by
  rw [ask_cd, thI, thP, hasP_n2]
  cases (decide (x < 0) || !decide (x < nI n)) <;> rfl
theorem ask_ct {ir : Bool} {x y : Int32} : ctT ir x y = cd2 xIS ((thR ir).or ((thK x).or (if (decide (y < 0) || !decide (y < 3)) = true then some xIO else none))) := by
  have e1 : askT ir x 6 = cd2 xIS (thI ir 6 x) := ask_cd (im := 6)
  have e2 : askT ir y 3 = cd2 xIS (thI ir 3 y) := ask_cd (im := 3)
  rw [ctT, e1, e2, thI, thI, thK]
  cases ir with
  | false =>
    show (if cd2 xIS (some xIS) = 0 then _ else cd2 xIS (some xIS)) = cd2 xIS (some xIS)
    rw [cd2_s, if_neg (by decide)]
  | true =>
    show (if cd2 xIS (if (decide (x < 0) || !decide (x < nI 6)) = true then some xIO else none) = 0 then cd2 xIS (if (decide (y < 0) || !decide (y < nI 3)) = true then some xIO else none) else cd2 xIS (if (decide (x < 0) || !decide (x < nI 6)) = true then some xIO else none)) = cd2 xIS ((if (decide (x < 0) || !decide (x < nI 6)) = true then some xIO else none).or (if (decide (y < 0) || !decide (y < nI 3)) = true then some xIO else none))
    cases (decide (x < 0) || !decide (x < nI 6)) with
    | true =>
      rw [if_pos rfl, cd2_d xne_OS, if_neg (by decide)]
      exact (cd2_d xne_OS).symm
    | false => rfl
/-- a question about an island -/
theorem r_askI {S : CS} {T : RS} (h : Rel S T) (x : Int32) : askT (iR (zI T)) x (nI (iM (zI T))) = cd2 xIS (thI (iR (sI S)) (iM (sI S)) x) ∧ (thI (iR (sI S)) (iM (sI S)) x = none → askT (iR (zI T)) x (nI (iM (zI T))) = 0 ∧ iR (sI S) = true ∧ ∃ k, k < iM (sI S) ∧ x = nI k ∧ x.toNatClampNeg = k) := by
  have hI := h.2.2.2.2.2.2.2.2.2
  have e : askT (iR (zI T)) x (nI (iM (zI T))) = cd2 xIS (thI (iR (sI S)) (iM (sI S)) x) := by rw [hI.1, hI.2.2.2.1]; exact ask_cd
  refine ⟨e, fun hn => ?_⟩
  rw [hn] at e
  obtain ⟨a1, a2, a3⟩ := askT_0 e
  obtain ⟨k, hk0, hk1⟩ := nI_of a2
  have hm := hI.2.1
  rw [hk1] at a3
  have := (nI_ltI hk0 (by rw [← hI.1]; omega)).mp a3
  exact ⟨e, by rw [hI.2.2.2.1]; exact a1, k, by rw [hI.1]; exact this, hk1, by rw [hk1]; exact nI_clamp hk0⟩
theorem r_ask0 {S : CS} {T : RS} (h : Rel S T) : askT (iR (zI T)) 0 1 = cd1 (thR (iR (sI S))) ∧ (thR (iR (sI S)) = none → askT (iR (zI T)) 0 1 = 0 ∧ iR (sI S) = true) := by
  have hI := h.2.2.2.2.2.2.2.2.2
  have e : askT (iR (zI T)) 0 1 = cd1 (thR (iR (sI S))) := by rw [hI.2.2.2.1]; exact ask_0
  exact ⟨e, fun hn => ⟨by rw [e, hn]; rfl, thR_n hn⟩⟩
theorem cntG_congr {k1 t1 k2 t2 : Nat → Int32} {x y : Int32} : ∀ (m k z : Nat), (∀ j, k ≤ j → j < k + m → k1 j = k2 j ∧ t1 j = t2 j) → cntG k1 t1 x y m k z = cntG k2 t2 x y m k z
  | 0, _, _, _ => rfl
  | m + 1, k, z, h => by
    rw [cntG, cntG, (h k (by omega) (by omega)).1, (h k (by omega) (by omega)).2]
    exact cntG_congr m (k + 1) _ (fun j g1 g2 => h j (by omega) (by omega))
theorem bocG_congr {p1 e1 a1 p2 e2 a2 : Nat → Int32} {x : Int32} : ∀ (m k : Nat) (z : Int32), (∀ j, k ≤ j → j < k + m → p1 j = p2 j ∧ e1 j = e2 j ∧ a1 j = a2 j) → bocG p1 e1 a1 x m k z = bocG p2 e2 a2 x m k z
  | 0, _, _, _ => rfl
  | m + 1, k, z, h => by
    obtain ⟨g1, g2, g3⟩ := h k (by omega) (by omega)
    rw [bocG, bocG, g1, g2, g3]
    exact bocG_congr m (k + 1) _ (fun j g1 g2 => h j (by omega) (by omega))
theorem arG_congr {a1 e1 a2 e2 : Nat → Int32} {x : Int32} : ∀ (m k : Nat) (z : Int32), (∀ j, k ≤ j → j < k + m → a1 j = a2 j ∧ e1 j = e2 j) → arG a1 e1 x m k z = arG a2 e2 x m k z
  | 0, _, _, _ => rfl
  | m + 1, k, z, h => by
    obtain ⟨g1, g2⟩ := h k (by omega) (by omega)
    rw [arG, arG, g1, g2]
    exact arG_congr m (k + 1) _ (fun j g1 g2 => h j (by omega) (by omega))
theorem dpG_congr {p1 p2 : Nat → Int32} {m : Nat} (hm : m ≤ 48) (hp : pOk p1 m) (h : ∀ k, k < m → p1 k = p2 k) : ∀ (f k : Nat), k < m → dpG p1 f (p1 k) = dpG p2 f (p2 k)
  | 0, _, _ => rfl
  | f + 1, k, hk9 => by
    rw [dpG, dpG, ← h k hk9]
    rcases hp k hk9 with z | ⟨t, t1, t2⟩
    · rw [if_pos z, if_pos z]
    · rw [t2, if_neg (nI_m1 (by omega)), if_neg (nI_m1 (by omega)), nI_clamp (by omega), dpG_congr hm hp h f t (by omega)]
theorem otG_congr {i j : IS} : ∀ (m k z : Nat), (∀ x, arV i x = arV j x) → otG i m k z = otG j m k z
  | 0, _, _, _ => rfl
  | m + 1, k, z, h => by
    rw [otG, otG, h]
    exact otG_congr m (k + 1) _ h
theorem IR_ar {n : Nat} {i j : IS} (h : IR n i j) (x : Int32) : arV i x = arV j x := by
  rw [arV, arV, ← h.1]
  exact arG_congr _ _ _ (fun k g1 g2 => ⟨(h.2.2.2.2.1 k (by omega)).2.1, (h.2.2.2.2.1 k (by omega)).2.2.1⟩)
theorem IR_bo {n : Nat} {i j : IS} (h : IR n i j) (x : Int32) : bocG (iP i) (iE i) (iA i) x (iM i) 0 0 = bocG (iP j) (iE j) (iA j) x (iM j) 0 0 := by
  rw [← h.1]
  exact bocG_congr _ _ _ (fun k g1 g2 => ⟨(h.2.2.2.2.1 k (by omega)).2.2.2.2, (h.2.2.2.2.1 k (by omega)).2.2.1, (h.2.2.2.2.1 k (by omega)).2.1⟩)
theorem IR_w {n : Nat} {i j : IS} (h : IR n i j) (hr : iR i = true) (hn : n ≤ 48) : ∃ C, C ≤ n ∧ bocG (iP i) (iE i) (iA i) (-1) (iM i) 0 0 = nI C ∧ otV j n = n - C := by
  obtain ⟨C, c1, c2, c3⟩ := WF_w (h.2.2.2.2.2.2 hr) hn
  refine ⟨C, c1, c2, ?_⟩
  rw [← c3, otV, otV]
  exact (otG_congr n 0 0 (IR_ar h)).symm
theorem r_own {S : CS} {T : RS} (h : Rel S T) {x : Int32} (hn : thI (iR (sI S)) (iM (sI S)) x = none) : iE (sI S) x.toNatClampNeg - iA (sI S) x.toNatClampNeg - bocG (iP (sI S)) (iE (sI S)) (iA (sI S)) x (iM (sI S)) 0 0 = if askT (iR (zI T)) x (nI (iM (zI T))) = 0 then owG (iP (zI T)) (iE (zI T)) (iA (zI T)) x (iM (zI T)) 0 (iE (zI T) x.toNatClampNeg - iA (zI T) x.toNatClampNeg) else 0 := by
  obtain ⟨e, -, k, k1, k2, k3⟩ := (r_askI h x).2 hn
  have hI := h.2.2.2.2.2.2.2.2.2
  have g := hI.2.2.2.2.1 k k1
  rw [if_pos e, IR_bo hI, k3, g.2.1, g.2.2.1, ← ow_boc]
  congr 1
  exact Int32.sub_zero _
theorem r_depth {S : CS} {T : RS} (h : Rel S T) {x : Int32} (hn : thI (iR (sI S)) (iM (sI S)) x = none) : iD (sI S) x.toNatClampNeg = if askT (iR (zI T)) x (nI (iM (zI T))) = 0 then nI (dpG (iP (zI T)) (iM (zI T)) (iP (zI T) x.toNatClampNeg)) else 0 := by
  obtain ⟨e, hr, k, k1, k2, k3⟩ := (r_askI h x).2 hn
  have hI := h.2.2.2.2.2.2.2.2.2
  rw [if_pos e, k3, WF_d (hI.2.2.2.2.2.2 hr) (iM (sI S)) k k1 (by omega), hI.1, ← hI.1, dpG_congr hI.2.1 hI.2.2.2.2.2.1 (fun k' g => (hI.2.2.2.2.1 k' g).2.2.2.2) _ k k1]
theorem r_at {S : CS} {T : RS} (h : Rel S T) (x : Int32) : askT (iR (zI T)) x (nI (zN T)) = cd2 xIS ((thR (iR (sI S))).or (thP (sN S) x)) ∧ ((thR (iR (sI S))).or (thP (sN S) x) = none → iaG (iA (sI S)) (iE (sI S)) x (iM (sI S)) = if askT (iR (zI T)) x (nI (zN T)) = 0 then arV (zI T) x else 0) := by
  have hI := h.2.2.2.2.2.2.2.2.2
  have e : askT (iR (zI T)) x (nI (zN T)) = cd2 xIS ((thR (iR (sI S))).or (thP (sN S) x)) := by rw [hI.2.2.2.1, ← h.2.1]; exact ask_at
  refine ⟨e, fun hn => ?_⟩
  rw [hn] at e
  have e : askT (iR (zI T)) x (nI (zN T)) = 0 := e
  rw [if_pos e, ← IR_ar hI, arV]
  have := arG_ia (ia := iA (sI S)) (ie := iE (sI S)) (x := x) (iM (sI S)) 0
  rw [Nat.zero_add] at this
  exact this.symm
theorem r_count {S : CS} {T : RS} (h : Rel S T) (x y : Int32) : ctT (iR (zI T)) x y = cd2 xIS ((thR (iR (sI S))).or ((thK x).or (if (decide (y < 0) || !decide (y < 3)) = true then some xIO else none))) ∧ ((thR (iR (sI S))).or ((thK x).or (if (decide (y < 0) || !decide (y < 3)) = true then some xIO else none)) = none → nI (cntG (iK (sI S)) (iT (sI S)) x y (iM (sI S)) 0 0) = if ctT (iR (zI T)) x y = 0 then nI (cntG (iK (zI T)) (iT (zI T)) x y (iM (zI T)) 0 0) else 0) := by
  have hI := h.2.2.2.2.2.2.2.2.2
  have e : ctT (iR (zI T)) x y = cd2 xIS ((thR (iR (sI S))).or ((thK x).or (if (decide (y < 0) || !decide (y < 3)) = true then some xIO else none))) := by rw [hI.2.2.2.1]; exact ask_ct
  refine ⟨e, fun hn => ?_⟩
  rw [hn] at e
  have e : ctT (iR (zI T)) x y = 0 := e
  rw [if_pos e, ← hI.1]
  congr 1
  exact cntG_congr _ _ _ (fun k g1 g2 => ⟨(hI.2.2.2.2.1 k (by omega)).1, (hI.2.2.2.2.1 k (by omega)).2.2.2.1⟩)
theorem r_water {S : CS} {T : RS} (h : Rel S T) (hn : thR (iR (sI S)) = none) : nI (sN S) - bocG (iP (sI S)) (iE (sI S)) (iA (sI S)) (-1) (iM (sI S)) 0 0 = if askT (iR (zI T)) 0 1 = 0 then nI (otV (zI T) (zN T)) else 0 := by
  obtain ⟨e, hr⟩ := (r_ask0 h).2 hn
  obtain ⟨C, c1, c2, c3⟩ := IR_w h.2.2.2.2.2.2.2.2.2 hr h.2.2.1
  rw [if_pos e, c2, ← h.2.1, c3, pk_sub c1]
theorem nan_f {n C : Nat} (hn : n ≤ 48) (h0 : n ≠ 0) (hC : C ≤ n) : vf_n64 (FP.ddiv (FP.i2d (nI C)) (FP.i2d (nI n))) := nan_ok n (by omega) h0 C (by omega) hC
theorem r_share {S : CS} {T : RS} (h : Rel S T) : (iR (sI S) = true → ¬ sN S = 0 → vf_n64 (FP.ddiv (FP.i2d (bocG (iP (sI S)) (iE (sI S)) (iA (sI S)) (-1) (iM (sI S)) 0 0)) (FP.i2d (nI (sN S))))) ∧ (askT (iR (zI T)) 0 1 = 0 → ¬ zN T = 0 → vf_n64 (FP.ddiv (FP.i2d (nI (zN T) - nI (otV (zI T) (zN T)))) (FP.i2d (nI (zN T))))) ∧ (thR (iR (sI S)) = none → (if sN S = 0 then FP.dconst0 else FP.ddiv (FP.i2d (bocG (iP (sI S)) (iE (sI S)) (iA (sI S)) (-1) (iM (sI S)) 0 0)) (FP.i2d (nI (sN S)))) = (if askT (iR (zI T)) 0 1 = 0 then (if (zN T) = 0 then FP.dconst0 else FP.ddiv (FP.i2d (nI (zN T) - nI (otV (zI T) (zN T)))) (FP.i2d (nI (zN T)))) else FP.dconst0)) := by
  have hI := h.2.2.2.2.2.2.2.2.2
  have h3 := h.2.2.1
  have key : iR (sI S) = true → ∃ C, C ≤ sN S ∧ bocG (iP (sI S)) (iE (sI S)) (iA (sI S)) (-1) (iM (sI S)) 0 0 = nI C ∧ nI (zN T) - nI (otV (zI T) (zN T)) = nI C := fun hr => by
    obtain ⟨C, c1, c2, c3⟩ := IR_w hI hr h3
    refine ⟨C, c1, c2, ?_⟩
    rw [← h.2.1, c3, pk_sub (by omega)]
    congr 1
    omega
  refine ⟨fun hr h0 => ?_, fun ha h0 => ?_, fun hn => ?_⟩
  · obtain ⟨C, c1, c2, -⟩ := key hr
    rw [c2]
    exact nan_f h3 h0 c1
  · have hr : iR (sI S) = true := by rw [hI.2.2.2.1]; exact (askT_0 ha).1
    obtain ⟨C, c1, -, c3⟩ := key hr
    rw [c3, ← h.2.1]
    rw [← h.2.1] at h0
    exact nan_f h3 h0 c1
  · obtain ⟨e, hr⟩ := (r_ask0 h).2 hn
    obtain ⟨C, c1, c2, c3⟩ := key hr
    rw [if_pos e, c2, c3, h.2.1]
/-! the digest -/
theorem dgI_congr {k1 a1 e1 t1 k2 a2 e2 t2 : Nat → Int32} : ∀ (m k : Nat) (z : Int64), (∀ j, k ≤ j → j < k + m → k1 j = k2 j ∧ a1 j = a2 j ∧ e1 j = e2 j ∧ t1 j = t2 j) → dgI k1 a1 e1 t1 m k z = dgI k2 a2 e2 t2 m k z
  | 0, _, _, _ => rfl
  | m + 1, k, z, h => by
    obtain ⟨g1, g2, g3, g4⟩ := h k (by omega) (by omega)
    rw [dgI, dgI, g1, g2, g3, g4]
    exact dgI_congr m (k + 1) _ (fun j g1 g2 => h j (by omega) (by omega))
theorem dgK_eq {ko kc ki : Nat → Int32} {kr ku : Int32} {zs : Nat → Nat} {zw : Nat → Int32} {zr zo : Nat → Bool} (hW : wRel ko kc zs zw) (hB : bRel kr ku zr zo) : ∀ (m k : Nat) (z : Int64), k + m = 6 → dgK ko kc ki kr ku m k z = dgKm zs zr zo ki m k z
  | 0, _, _, _ => rfl
  | m + 1, k, z, h => by
    rw [dgK, dgKm, cpl_eq hW (by omega), hk_bt _ (by omega), hk_bt _ (by omega), (hB k (by omega)).1, (hB k (by omega)).2]
    exact dgK_eq hW hB m (k + 1) _ (by omega)
theorem r_digest {S : CS} {T : RS} (h : Rel S T) : dgAll (sB S) (sN S) (sE S) (sL S) (sO S) (sC S) (sJ S) (sR S) (sU S) (sI S) = dgM (zB T) (zN T) (zE T) (zL T) (zZ T) (zR T) (zO T) (zJ T) (zI T) := by
  obtain ⟨h1, h2, h3, h4, h5, h6, h7, h8, h9, h10⟩ := h
  have e0 : dg0 (sB S) (sN S) (sE S) (sL S) (sO S) (sC S) (sJ S) (sR S) (sU S) = dg0m (zB T) (zN T) (zE T) (zL T) (zZ T) (zR T) (zO T) (zJ T) := by
    rw [dg0, dg0m, dgK_eq h7 h8 6 0 _ rfl, h1, h2, h4, h5, h6]
    rfl
  rw [dgAll, dgM, e0, h10.2.2.2.1]
  by_cases hr : iR (zI T) = true
  · rw [if_pos hr, if_pos hr, dgW, dgW, ← h10.1, ← h10.2.2.1]
    congr 1
    exact dgI_congr _ _ _ (fun k g1 g2 => ⟨(h10.2.2.2.2.1 k (by omega)).1, (h10.2.2.2.2.1 k (by omega)).2.1, (h10.2.2.2.2.1 k (by omega)).2.2.1, (h10.2.2.2.2.1 k (by omega)).2.2.2.1⟩)
  · rw [if_neg hr, if_neg hr]
