/-! THEORY 15: the class's state and the reference's, related; the operations keep it -/
def IR (n : Nat) (i j : IS) : Prop := iM i = iM j ∧ iM i ≤ 48 ∧ iL i = iL j ∧ iR i = iR j ∧ (∀ k, k < iM i → iK i k = iK j k ∧ iA i k = iA j k ∧ iE i k = iE j k ∧ iT i k = iT j k ∧ iP i k = iP j k) ∧ pOk (iP i) (iM i) ∧ (iR i = true → WF n i)
def Rel (S : CS) (T : RS) : Prop := sB S = zB T ∧ sN S = zN T ∧ sN S ≤ 48 ∧ sE S = zE T ∧ sL S = zL T ∧ sJ S = zJ T ∧ wRel (sO S) (sC S) (zZ T) (zW T) ∧ bRel (sR S) (sU S) (zR T) (zO T) ∧ (∀ x, x < sN S → txB (sB S x) = true) ∧ IR (sN S) (sI S) (zI T)
theorem IR_fg {n m : Nat} {i j : IS} (h : IR n i j) : IR m (fgI i) (fgI j) := ⟨h.1, h.2.1, h.2.2.1, rfl, h.2.2.2.2.1, h.2.2.2.2.2.1, fun z => absurd z Bool.false_ne_true⟩
theorem xne_SA : xIS ≠ xIA := by decide
theorem xne_AO : xIA ≠ xIO := by decide
theorem xne_OS : xIO ≠ xIS := by decide
theorem ifs {α : Type} {E : String} {x y : α} : (if some E = none then x else y) = y := if_neg (fun z => by cases z)
theorem ifn {α : Type} {x y : α} : (if (none : Option String) = none then x else y) = x := if_pos rfl
theorem cd2_s {E : String} : cd2 E (some E) = 1 := if_pos rfl
theorem cd2_d {E F : String} (h : F ≠ E) : cd2 E (some F) = 2 := if_neg h
theorem dec_not {x y : Int32} : decide (y < x) = !decide (x ≤ y) := by rw [← decide_not]; exact decide_eq_decide.mpr i32_nle.symm
theorem dec_not2 {x y : Int32} : decide (y ≤ x) = !decide (x < y) := by rw [← decide_not]; exact decide_eq_decide.mpr i32_nlt.symm
theorem isIn_n2 {x y : Int32} : isInB x 0 y = !(decide (x < 0) || !decide (x ≤ y)) := by
  rw [isInB, dec_not (x := x) (y := y)]
  cases decide (x < 0) <;> cases decide (x ≤ y) <;> rfl
theorem hasP_n2 {n : Nat} {x : Int32} : hasP n x = !(decide (x < 0) || !decide (x < nI n)) := by
  rw [hasP, dec_not2 (x := x) (y := nI n)]
  cases decide (x < 0) <;> cases decide (x < nI n) <;> rfl
theorem isIn_P {n : Nat} {x : Int32} (hn : n ≤ 48) : isInB x 0 (nI n - 1) = hasP n x := by
  rw [isInB, hasP]
  by_cases h0 : x < 0
  · rw [decide_eq_true h0]; rfl
  · rw [decide_eq_false h0]
    congr 2
    refine decide_eq_decide.mpr ?_
    rw [Int32.lt_iff_toInt_lt] at h0
    have e0 : (0 : Int32).toInt = 0 := by decide
    rw [Int32.lt_iff_toInt_lt, Int32.le_iff_toInt_le, nI_toInt (by omega)]
    rcases Nat.eq_zero_or_pos n with z | z
    · subst z
      have : (nI 0 - 1).toInt = -1 := by decide
      omega
    · obtain ⟨k, rfl⟩ : ∃ k, n = k + 1 := ⟨n - 1, by omega⟩
      rw [nI_pred, nI_toInt (by omega)]
      omega
theorem in6_K {x : Int32} : inB6 x = !(decide (x < 0) || !decide (x < 6)) := by
  rw [inB6, isInB]
  have : decide ((5 : Int32) < x) = !decide (x < 6) := by
    rw [← decide_not]
    refine decide_eq_decide.mpr ?_
    rw [Int32.lt_iff_toInt_lt, Int32.lt_iff_toInt_lt]
    have e5 : (5 : Int32).toInt = 5 := by decide
    have e6 : (6 : Int32).toInt = 6 := by decide
    omega
  rw [this]
  cases decide (x < 0) <;> cases decide (x < 6) <;> rfl
/-! text -/
theorem fdC_tx {x : Int64} : ∀ (k z z' : Nat), fdC x k z = some z' → ∀ (b : Nat → Int32) (n : Nat), (∀ p, p < n → txB (b p) = true) → (fdA x k b n).2 = n + nz x k ∧ ∀ p, p < (fdA x k b n).2 → txB ((fdA x k b n).1 p) = true
  | 0, z, z', _, b, n, hb => ⟨rfl, hb⟩
  | k + 1, z, z', h, b, n, hb => by
    rw [fdC] at h
    split at h
    · cases h
    · next c =>
      rw [fdA, nz]
      by_cases h0 : fb x k = 0
      · rw [if_pos h0, if_pos h0, Nat.zero_add]
        exact fdC_tx k _ z' h b n hb
      · rw [if_neg h0, if_neg h0]
        have hx : txB (fb x k) = true := by
          simp only [Bool.and_eq_true, Bool.not_eq_true', decide_eq_false_iff_not, not_and, Bool.not_eq_false] at c
          exact c h0
        have := fdC_tx k _ z' h (upd b n (fb x k)) (n + 1) (fun p hp => by
          by_cases e : p = n
          · subst e; rw [pk_us]; exact hx
          · rw [pk_un e]; exact hb p (by omega))
        refine ⟨by rw [this.1]; omega, this.2⟩
theorem r_feed {S : CS} {T : RS} (h : Rel S T) (x : Int64) : zT (pFeed x T) = cd2 xIA (thF x (sN S)) ∧ (thF x (sN S) = none → (nI (fdA x 8 (sB S) (sN S)).2).toInt64 = (if fTm x (zN T) = 0 then nI (fdA x 8 (zB T) (zN T)).2 else 0).toInt64) ∧ Rel (if thF x (sN S) = none then oFeed x S else S) (pFeed x T) := by
  obtain ⟨h1, h2, h3, h4, h5, h6, h7, h8, h9, h10⟩ := h
  have e : fTm x (zN T) = cd2 xIA (thF x (sN S)) := by
    rw [← h2, fTm, thF]
    cases fdC x 8 0 with
    | none => exact cd2_s.symm
    | some z =>
      by_cases hz : z ≤ 48 - sN S
      · show (if sN S + z ≤ 48 then (0 : Int32) else 2) = cd2 xIA (if z ≤ 48 - sN S then none else some xIS)
        rw [if_pos hz, if_pos (by omega)]
        rfl
      · show (if sN S + z ≤ 48 then (0 : Int32) else 2) = cd2 xIA (if z ≤ 48 - sN S then none else some xIS)
        rw [if_neg hz, if_neg (by omega), cd2_d xne_SA]
  refine ⟨e, fun hn => ?_, ?_⟩
  · rw [hn] at e
    have e : fTm x (zN T) = 0 := e
    rw [if_pos e, h1, h2]
  · by_cases hn : thF x (sN S) = none
    · rw [if_pos hn]
      rw [hn] at e
      have e : fTm x (zN T) = 0 := e
      obtain ⟨z, z1, z2⟩ : ∃ z, fdC x 8 0 = some z ∧ z ≤ 48 - sN S := by
        rw [thF] at hn
        cases hz : fdC x 8 0 with
        | none => rw [hz] at hn; cases hn
        | some z =>
          rw [hz] at hn
          have hn : (if z ≤ 48 - sN S then none else some xIS) = none := hn
          by_cases hz2 : z ≤ 48 - sN S
          · exact ⟨z, rfl, hz2⟩
          · rw [if_neg hz2] at hn; cases hn
      have hnz := fdC_nz z1
      obtain ⟨t1, t2⟩ := fdC_tx 8 0 z z1 (sB S) (sN S) h9
      have hle : (fdA x 8 (sB S) (sN S)).2 ≤ 48 := by omega
      simp only [pFeed, if_pos e]
      refine ⟨?_, ?_, hle, h4, h5, h6, h7, h8, t2, IR_fg h10⟩
      · show (fdA x 8 (sB S) (sN S)).1 = (fdA x 8 (zB T) (zN T)).1
        rw [h1, h2]
      · show (fdA x 8 (sB S) (sN S)).2 = (fdA x 8 (zB T) (zN T)).2
        rw [h1, h2]
    · rw [if_neg hn]
      have e2 : ¬ fTm x (zN T) = 0 := fun z => hn (cd2_0 (e.symm.trans z))
      simp only [pFeed, if_neg e2]
      exact ⟨h1, h2, h3, h4, h5, h6, h7, h8, h9, h10⟩
theorem r_cut {S : CS} {T : RS} (h : Rel S T) (x : Int32) : zT (pCut x T) = cd1 (if (decide (x < 0) || !decide (x ≤ nI (sN S))) = true then some xIA else none) ∧ ((if (decide (x < 0) || !decide (x ≤ nI (sN S))) = true then some xIA else none) = none → (nI (sN S - x.toNatClampNeg)).toInt64 = (if isInB x 0 (nI (zN T)) = true then nI (zN T - x.toNatClampNeg) else 0).toInt64) ∧ Rel (if (if (decide (x < 0) || !decide (x ≤ nI (sN S))) = true then some xIA else none) = none then oCut x S else S) (pCut x T) := by
  obtain ⟨h1, h2, h3, h4, h5, h6, h7, h8, h9, h10⟩ := h
  have e : isInB x 0 (nI (zN T)) = !(decide (x < 0) || !decide (x ≤ nI (sN S))) := by rw [← h2]; exact isIn_n2
  cases hc : (decide (x < 0) || !decide (x ≤ nI (sN S))) with
  | true =>
    rw [hc] at e
    have e2 : ¬ isInB x 0 (nI (zN T)) = true := by rw [e]; exact Bool.false_ne_true
    rw [if_pos rfl, ifs]
    simp only [pCut, if_neg e2]
    exact ⟨rfl, fun z => (nomatch z), h1, h2, h3, h4, h5, h6, h7, h8, h9, h10⟩
  | false =>
    rw [hc] at e
    have e : isInB x 0 (nI (zN T)) = true := e
    rw [if_neg Bool.false_ne_true, ifn]
    simp only [pCut, if_pos e]
    refine ⟨rfl, fun _ => by rw [h2], h1, ?_, Nat.le_trans (Nat.sub_le _ _) h3, h4, h5, h6, h7, h8, fun p hp => h9 p (Nat.lt_of_lt_of_le hp (Nat.sub_le _ _)), IR_fg h10⟩
    show sN S - x.toNatClampNeg = zN T - x.toNatClampNeg
    rw [h2]
theorem r_set {S : CS} {T : RS} (h : Rel S T) (x y : Int32) : zT (pSet x y T) = cd2 xIO ((thP (sN S) x).or (if txB y = true then none else some xIA)) ∧ ((thP (sN S) x).or (if txB y = true then none else some xIA) = none → (sB S x.toNatClampNeg).toInt64 = (if isInB x 0 (nI (zN T) - 1) = true then (if txB y = true then (zB T) x.toNatClampNeg else 0) else 0).toInt64) ∧ Rel (if (thP (sN S) x).or (if txB y = true then none else some xIA) = none then oSet x y S else S) (pSet x y T) := by
  obtain ⟨h1, h2, h3, h4, h5, h6, h7, h8, h9, h10⟩ := h
  have e : isInB x 0 (nI (zN T) - 1) = hasP (sN S) x := by rw [← h2]; exact isIn_P h3
  rw [thP]
  cases hc : hasP (sN S) x with
  | false =>
    rw [hc] at e
    have e2 : ¬ isInB x 0 (nI (zN T) - 1) = true := by rw [e]; exact Bool.false_ne_true
    rw [if_neg Bool.false_ne_true]
    have ho : (some xIO).or (if txB y = true then none else some xIA) = some xIO := rfl
    rw [ho, ifs, cd2_s]
    simp only [pSet, if_neg e2]
    exact ⟨rfl, fun z => (nomatch z), h1, h2, h3, h4, h5, h6, h7, h8, h9, h10⟩
  | true =>
    rw [hc] at e
    rw [if_pos rfl]
    cases hy : txB y with
    | false =>
      rw [if_neg Bool.false_ne_true]
      have ho : (none : Option String).or (some xIA) = some xIA := rfl
      rw [ho, ifs, cd2_d xne_AO]
      have hy2 : ¬ txB y = true := by rw [hy]; exact Bool.false_ne_true
      simp only [pSet, if_pos e, if_neg hy2]
      exact ⟨rfl, fun z => (nomatch z), h1, h2, h3, h4, h5, h6, h7, h8, h9, h10⟩
    | true =>
      rw [if_pos rfl]
      have ho : (none : Option String).or none = none := rfl
      rw [ho, ifn]
      simp only [pSet, if_pos e, if_pos hy]
      refine ⟨rfl, fun _ => by simp [h1], ?_, h2, h3, h4, h5, h6, h7, h8, fun p hp => ?_, IR_fg h10⟩
      · show upd (sB S) x.toNatClampNeg y = upd (zB T) x.toNatClampNeg y
        rw [h1]
      · show txB (upd (sB S) x.toNatClampNeg y p) = true
        by_cases ep : p = x.toNatClampNeg
        · rw [ep, pk_us]; exact hy
        · rw [pk_un ep]; exact h9 p hp
theorem r_byteAt {S : CS} {T : RS} (h : Rel S T) (x : Int32) : zT (pByte x T) = cd1 (thP (sN S) x) ∧ (thP (sN S) x = none → (sB S x.toNatClampNeg).toInt64 = (if isInB x 0 (nI (zN T) - 1) = true then (zB T) x.toNatClampNeg else 0).toInt64) ∧ Rel S (pByte x T) := by
  have h0 := h
  obtain ⟨h1, h2, h3, h4, h5, h6, h7, h8, h9, h10⟩ := h
  have e : isInB x 0 (nI (zN T) - 1) = hasP (sN S) x := by rw [← h2]; exact isIn_P h3
  refine ⟨?_, fun hn => ?_, h0⟩
  · show (if isInB x 0 (nI (zN T) - 1) = true then (0 : Int32) else 1) = _
    rw [e, thP]
    cases hasP (sN S) x <;> rfl
  · rw [e, thP_n hn, if_pos rfl, h1]
theorem r_esc {S : CS} {T : RS} (h : Rel S T) (x : Int32) : zT (pEsc x T) = cd1 (if (!decide (x = -1) && !txB x) = true then some xIA else none) ∧ ((if (!decide (x = -1) && !txB x) = true then some xIA else none) = none → (sE S).toInt64 = (if (decide (x = -1) || txB x) = true then (zE T) else 0).toInt64) ∧ Rel (if (if (!decide (x = -1) && !txB x) = true then some xIA else none) = none then oEsc x S else S) (pEsc x T) := by
  obtain ⟨h1, h2, h3, h4, h5, h6, h7, h8, h9, h10⟩ := h
  have e : (!decide (x = -1) && !txB x) = !(decide (x = -1) || txB x) := by cases decide (x = -1) <;> cases txB x <;> rfl
  rw [e]
  cases hc : (decide (x = -1) || txB x) with
  | true =>
    rw [if_neg (by decide), ifn]
    simp only [pEsc, if_pos hc]
    exact ⟨rfl, fun _ => by simp [h4], h1, h2, h3, rfl, h5, h6, h7, h8, h9, IR_fg h10⟩
  | false =>
    have hc2 : ¬ (decide (x = -1) || txB x) = true := by rw [hc]; exact Bool.false_ne_true
    rw [if_pos (by decide), ifs]
    simp only [pEsc, if_neg hc2]
    exact ⟨rfl, fun z => (nomatch z), h1, h2, h3, h4, h5, h6, h7, h8, h9, h10⟩
theorem r_len {S : CS} {T : RS} (h : Rel S T) (v : Bool) : bI (sL S) = bI (zL T) ∧ Rel (oLen v S) (pLen v T) := by
  obtain ⟨h1, h2, h3, h4, h5, h6, h7, h8, h9, h10⟩ := h
  exact ⟨by rw [h5], h1, h2, h3, h4, rfl, h6, h7, h8, h9, IR_fg h10⟩
/-! kinds -/
theorem wKd_bt {q : Int32} {v : Bool} {k j : Nat} (hk9 : k < 6) (hj : j < 6) : bt (wKd q (nI k) v) j = if j = k then v else bt q j := by
  rw [wKd]
  cases v with
  | true =>
    rw [if_pos rfl, b_or, bt_one (by omega) (by omega)]
    by_cases e : j = k
    · rw [if_pos e, decide_eq_true e, Bool.or_true]
    · rw [if_neg e, decide_eq_false e, Bool.or_false]
  | false =>
    rw [if_neg Bool.false_ne_true, b_and, bt_not (by omega), bt_one (by omega) (by omega)]
    by_cases e : j = k
    · rw [if_pos e, decide_eq_true e]; simp
    · rw [if_neg e, decide_eq_false e]; simp
theorem r_kind {S : CS} {T : RS} (h : Rel S T) (x : Int32) (v1 v2 : Bool) (y : Int32) : zT (pKind x v1 v2 y T) = cd2 xIO (thS x y) ∧ (thS x y = none → (sJ S x.toNatClampNeg).toInt64 = (if inB6 x = true then (if isInB y 0 63 = true then (zJ T) x.toNatClampNeg else 0) else 0).toInt64) ∧ Rel (if thS x y = none then oKind x v1 v2 y S else S) (pKind x v1 v2 y T) := by
  obtain ⟨h1, h2, h3, h4, h5, h6, h7, h8, h9, h10⟩ := h
  have e := in6_K (x := x)
  rw [thS, thK]
  cases hc : (decide (x < 0) || !decide (x < 6)) with
  | true =>
    rw [hc] at e
    have e2 : ¬ inB6 x = true := by rw [e]; exact Bool.false_ne_true
    rw [if_pos rfl]
    have ho : (some xIO).or (if (decide (y < 0) || !decide (y ≤ 63)) = true then some xIA else none) = some xIO := rfl
    rw [ho, ifs, cd2_s]
    simp only [pKind, if_neg e2]
    exact ⟨rfl, fun z => (nomatch z), h1, h2, h3, h4, h5, h6, h7, h8, h9, h10⟩
  | false =>
    rw [hc] at e
    have e : inB6 x = true := e
    rw [if_neg Bool.false_ne_true]
    have ey := isIn_n2 (x := y) (y := 63)
    cases hy : (decide (y < 0) || !decide (y ≤ 63)) with
    | true =>
      rw [hy] at ey
      have ey2 : ¬ isInB y 0 63 = true := by rw [ey]; exact Bool.false_ne_true
      rw [if_pos rfl]
      have ho : (none : Option String).or (some xIA) = some xIA := rfl
      rw [ho, ifs, cd2_d xne_AO]
      simp only [pKind, if_pos e, if_neg ey2]
      exact ⟨rfl, fun z => (nomatch z), h1, h2, h3, h4, h5, h6, h7, h8, h9, h10⟩
    | false =>
      rw [hy] at ey
      have ey : isInB y 0 63 = true := ey
      rw [if_neg Bool.false_ne_true]
      have ho : (none : Option String).or none = none := rfl
      rw [ho, ifn]
      simp only [pKind, if_pos e, if_pos ey]
      have hx0 : ¬ x < 0 ∧ x < 6 := by
        simp only [Bool.or_eq_false_iff, decide_eq_false_iff_not, Bool.not_eq_false', decide_eq_true_eq] at hc
        exact hc
      obtain ⟨k, hk0, rfl⟩ := nI_of hx0.1
      have hk6 : k < 6 := (nI_ltI (b := 6) hk0 (by decide)).mp hx0.2
      refine ⟨rfl, fun _ => by rw [h6], h1, h2, h3, h4, h5, ?_, h7, fun j hj => ?_, h9, IR_fg h10⟩
      · show upd (sJ S) (nI k).toNatClampNeg y = upd (zJ T) (nI k).toNatClampNeg y
        rw [h6]
      · show bt (wKd (sR S) (nI k) v1) j = updB (zR T) (nI k).toNatClampNeg v1 j ∧ bt (wKd (sU S) (nI k) v2) j = updB (zO T) (nI k).toNatClampNeg v2 j
        rw [wKd_bt hk6 hj, wKd_bt hk6 hj, nI_clamp hk0, updB, updB, (h8 j hj).1, (h8 j hj).2]
        exact ⟨rfl, rfl⟩
