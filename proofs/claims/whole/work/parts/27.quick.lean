set_option maxHeartbeats 4000000 in
set_option maxRecDepth 100000 in
theorem c_X5_isTextByte (l : Launch) (G : va_G) (tc : Nat → ClassId) (x : Int32) : kI l yX5_isTextByte (xw yX5_isTextByte cX5_isTextByte 1 (some .boolean)) 0 G tc [.int x] ([]) (bI (txB x)) ([]) := by
  refine kI_of [some (.int x)] 0 (by decide) (Nat.le_of_ble_eq_true rfl) rfl ?_
  intro p e s m args below meth c A C
  refine xiload_0 C dX5_isTextByte_0 ?_
  refine xbipush C (32) dX5_isTextByte_1 (by decide) ?_
  refine xicmp_lt C (tgt := 16) dX5_isTextByte_3 (by decide) (fun h3 => ?_) (fun h3 => ?_)
  · skip
    refine xiconst C (0) dX5_isTextByte_16 (by decide) ?_
    exact xzret C dX5_isTextByte_17 (by first | rfl | exact bI_nar _) (by simp [bI, txB, *]) (rfl)
  · skip
    refine xiload_0 C dX5_isTextByte_6 ?_
    refine xbipush C (126) dX5_isTextByte_7 (by decide) ?_
    refine xicmp_gt C (tgt := 16) dX5_isTextByte_9 (by decide) (fun h9 => ?_) (fun h9 => ?_)
    · skip
      refine xiconst C (0) dX5_isTextByte_16 (by decide) ?_
      exact xzret C dX5_isTextByte_17 (by first | rfl | exact bI_nar _) (by simp [bI, txB, *]) (rfl)
    · skip
      refine xiconst C (1) dX5_isTextByte_12 (by decide) ?_
      refine xgoto C (tgt := 17) dX5_isTextByte_13 (by decide) ?_
      exact xzret C dX5_isTextByte_17 (by first | rfl | exact bI_nar _) (by simp [bI, txB, *]) (rfl)
set_option maxHeartbeats 4000000 in
set_option maxRecDepth 100000 in
theorem c_X5_smallestKind (l : Launch) (G : va_G) (tc : Nat → ClassId) (q : Int32) : kI l yX5_smallestKind (xw yX5_smallestKind cX5_smallestKind 2 (some .int)) 1 G tc [.int q] ([]) (oI (skG q 6 0)) ([]) := by
  refine kI_of [some (.int q), none] 1 (by decide) (Nat.le_of_ble_eq_true rfl) rfl ?_
  intro p e s m args below meth c A C
  have loop : ∀ (n k : Nat), k + n = 6 → skG q n k = skG q 6 0 → xAT p l e (xR 1 0 0) s m args below meth c (xQi below args s G A (oI (skG q 6 0)) ([])) G A 2 0 0 [] [some (.int q), some (.int (nI k))] 2 [] := by
    intro n
    induction n with
    | zero =>
      intro k hk6 hz
      have hk6 : k = 6 := hk6
      subst hk6
      refine xiload_1 C dX5_smallestKind_2 ?_
      refine xbipush C (6) dX5_smallestKind_3 (by decide) ?_
      refine xicmp_ge C (tgt := 24) dX5_smallestKind_5 (by decide) (fun h5 => ?_) (fun h5 => ?_)
      · skip
        refine xiconst C (-1) dX5_smallestKind_24 (by decide) ?_
        exact xiret C dX5_smallestKind_25 (by rw [← hz]; rfl) (rfl)
      · skip
        exact absurd (Int32.le_refl _) h5
    | succ n ih =>
      intro k hk6 hz
      rw [skG] at hz
      have hkl : k < 6 := by omega
      refine xiload_1 C dX5_smallestKind_2 ?_
      refine xbipush C (6) dX5_smallestKind_3 (by decide) ?_
      refine xicmp_ge C (tgt := 24) dX5_smallestKind_5 (by decide) (fun h5 => ?_) (fun h5 => ?_)
      · skip
        exact absurd h5 (nI_ge hkl (by decide))
      · skip
        refine xiload_0 C dX5_smallestKind_8 ?_
        refine xiload_1 C dX5_smallestKind_9 ?_
        refine xcallSi0 C m_X5_holdsKind k_X5_204 (c_X5_holdsKind l G tc q (nI k)) dX5_smallestKind_10 ([] : List Nat) rfl rfl rfl (by decide) rfl (Nat.le_of_ble_eq_true rfl) ⟨by decide, by decide⟩ ?_
        refine xif_eq C (tgt := 18) dX5_smallestKind_13 (by decide) (fun h13 => ?_) (fun h13 => ?_)
        · skip
          have h13 := bI0 h13
          refine xiinc_1 C (nI (k + 1)) dX5_smallestKind_18 (nI_1 k) rfl (by decide) ?_
          refine xgoto C (tgt := 2) dX5_smallestKind_21 (by decide) ?_
          exact ih (k + 1) (by omega) (by rw [← hz, if_neg (by rw [h13]; exact Bool.false_ne_true)])
        · skip
          have h13 := bI1 h13
          refine xiload_1 C dX5_smallestKind_16 ?_
          exact xiret C dX5_smallestKind_17 (by rw [← hz, if_pos h13]; rfl) (rfl)
  refine xiconst C (nI 0) dX5_smallestKind_0 (by decide) ?_
  refine xistore_1 C dX5_smallestKind_1 rfl (by decide) ?_
  exact loop 6 0 rfl rfl
set_option maxHeartbeats 4000000 in
set_option maxRecDepth 100000 in
theorem c_X5_giveUp (l : Launch) (G : va_G) (tc : Nat → ClassId) (a0 : Nat) (aT aK aI aM aB : Nat → Nat) (lt : Bool) (i : IS) (hi : iOk i) (g : Nat) (hg : g ≤ iQ i) (x y : Int32) (r : IS) (hr : guG x y g i = r) : kV l yX5_giveUp (xw yX5_giveUp cX5_giveUp 5 none) 2 G tc [.ref a0, .int (nI g), .int x, .int y] (wO a0 aT aK aI aM aB lt ++ wIs tc aI (i)) (wO a0 aT aK aI aM aB lt ++ wIs tc aI (r)) := by
  refine kV_of [some (.ref a0), some (.int (nI g)), some (.int x), some (.int y), none] 1 (by decide) (Nat.le_of_ble_eq_true rfl) rfl ?_
  intro p e s m args below meth c A C
  have hg48 : g ≤ 48 := Nat.le_trans hg hi.2.1
  have loop : ∀ (n k : Nat) (i : IS), k + n = g → iOk i → n ≤ iQ i → guG x y n i = r → xAT p l e (xR 2 0 0) s m args below meth c (xQv below args s G A (wO a0 aT aK aI aM aB lt ++ wIs tc aI (r))) G A 5 0 0 (wO a0 aT aK aI aM aB lt ++ wIs tc aI (i)) [some (.ref a0), some (.int (nI g)), some (.int x), some (.int y), some (.int (nI k))] 3 [] := by
    intro n
    induction n with
    | zero =>
      intro k i hk hi hq hz
      have hk : k = g := hk
      subst hk
      have hz : i = r := hz
      refine xiload_4 C dX5_giveUp_3 ?_
      refine xiload_1 C dX5_giveUp_5 ?_
      refine xicmp_ge C (tgt := 24) dX5_giveUp_6 (by decide) (fun h6 => ?_) (fun h6 => ?_)
      · skip
        exact xvret C dX5_giveUp_24 (by rw [hz])
      · skip
        exact absurd (Int32.le_refl _) h6
    | succ n ih =>
      intro k i hk hi hq hz
      rw [guG] at hz
      have hkl : k < g := by omega
      refine xiload_4 C dX5_giveUp_3 ?_
      refine xiload_1 C dX5_giveUp_5 ?_
      refine xicmp_ge C (tgt := 24) dX5_giveUp_6 (by decide) (fun h6 => ?_) (fun h6 => ?_)
      · skip
        exact absurd h6 (nI_ge hkl (by omega))
      · skip
        refine xaload_0 C dX5_giveUp_9 ?_
        refine xget C 0 f_X5_26 dX5_giveUp_10 rfl rfl ?_
        refine xiload_2 C dX5_giveUp_13 ?_
        refine xiload_3 C dX5_giveUp_14 ?_
        refine xcallVv C m_X1_finish k_X5_240 (c_fin l G tc aI i hi (by omega) x y) dX5_giveUp_15 1 rfl [1, 2, 3, 4, 5, 6, 7, 8] (wO a0 aT aK aI aM aB lt ++ wIs tc aI (fnI x y i)) rfl rfl rfl rfl rfl (by decide) rfl (Nat.le_of_ble_eq_true rfl) ⟨by decide, by decide⟩ ?_
        refine xiinc_4 C (nI (k + 1)) dX5_giveUp_18 (nI_1 k) rfl (by decide) ?_
        refine xgoto C (tgt := 3) dX5_giveUp_21 (by decide) ?_
        exact ih (k + 1) _ (by omega) (iOk_fn hi) (by show n ≤ iQ i - 1; omega) hz
  refine xiconst C (nI 0) dX5_giveUp_0 (by decide) ?_
  refine xistore_4 C dX5_giveUp_1 rfl (by decide) ?_
  exact loop g 0 i (by omega) hi hg hr
set_option maxHeartbeats 4000000 in
set_option maxRecDepth 100000 in
theorem c_X5_islandsInsideClosedBy (l : Launch) (G : va_G) (tc : Nat → ClassId) (a0 : Nat) (aT aK aI aM aB : Nat → Nat) (lt : Bool) (ko kc ki : Nat → Int32) (kr ku : Int32) (i : IS) (hi : iOk i) (w : Int32) : kI l yX5_islandsInsideClosedBy (xw yX5_islandsInsideClosedBy cX5_islandsInsideClosedBy 3 (some .int)) 2 G tc [.ref a0, .int w] (wO a0 aT aK aI aM aB lt ++ (wK tc aK ko kc ki kr ku ++ wIs tc aI (i))) (oI (iic ko kc (iK i) (iO i) (iQ i) w)) (wO a0 aT aK aI aM aB lt ++ (wK tc aK ko kc ki kr ku ++ wIs tc aI (i))) := by
  refine kI_of [some (.ref a0), some (.int w), none] 1 (by decide) (Nat.le_of_ble_eq_true rfl) rfl ?_
  intro p e s m args below meth c A C
  have hq48 := hi.2.1
  have loop : ∀ (n j : Nat), j + n = iQ i → iicG ko kc (iK i) (iO i) (iQ i) w n j = iic ko kc (iK i) (iO i) (iQ i) w → xAT p l e (xR 2 0 0) s m args below meth c (xQi below args s G A (oI (iic ko kc (iK i) (iO i) (iQ i) w)) (wO a0 aT aK aI aM aB lt ++ (wK tc aK ko kc ki kr ku ++ wIs tc aI (i)))) G A 3 0 0 (wO a0 aT aK aI aM aB lt ++ (wK tc aK ko kc ki kr ku ++ wIs tc aI (i))) [some (.ref a0), some (.int w), some (.int (nI j))] 2 [] := by
    intro n
    induction n with
    | zero =>
      intro j hj hz
      have hj : j = iQ i := hj
      refine xiload_2 C dX5_islandsInsideClosedBy_2 ?_
      refine xaload_0 C dX5_islandsInsideClosedBy_3 ?_
      refine xget C 0 f_X5_26 dX5_islandsInsideClosedBy_4 rfl rfl ?_
      refine xget C 5 f_X5_132 dX5_islandsInsideClosedBy_7 rfl rfl ?_
      refine xicmp_ge C (tgt := 40) dX5_islandsInsideClosedBy_10 (by decide) (fun h10 => ?_) (fun h10 => ?_)
      · skip
        refine xiconst C (-1) dX5_islandsInsideClosedBy_40 (by decide) ?_
        exact xiret C dX5_islandsInsideClosedBy_41 (by rw [← hz]; rfl) (rfl)
      · skip
        exact absurd (show nI (iQ i) ≤ nI j from by rw [hj]; exact Int32.le_refl _) h10
    | succ n ih =>
      intro j hj hz
      rw [iicG] at hz
      have hjl : j < iQ i := by omega
      refine xiload_2 C dX5_islandsInsideClosedBy_2 ?_
      refine xaload_0 C dX5_islandsInsideClosedBy_3 ?_
      refine xget C 0 f_X5_26 dX5_islandsInsideClosedBy_4 rfl rfl ?_
      refine xget C 5 f_X5_132 dX5_islandsInsideClosedBy_7 rfl rfl ?_
      refine xicmp_ge C (tgt := 40) dX5_islandsInsideClosedBy_10 (by decide) (fun h10 => ?_) (fun h10 => ?_)
      · skip
        exact absurd h10 (nI_ge hjl (by omega))
      · skip
        refine xaload_0 C dX5_islandsInsideClosedBy_13 ?_
        refine xget C 0 f_X5_19 dX5_islandsInsideClosedBy_14 rfl rfl ?_
        refine xaload_0 C dX5_islandsInsideClosedBy_17 ?_
        refine xget C 0 f_X5_26 dX5_islandsInsideClosedBy_18 rfl rfl ?_
        refine xiload_2 C dX5_islandsInsideClosedBy_21 ?_
        refine xcallVi0 C m_X1_openKind k_X5_262 (c_okd l G tc aI i hi j (by omega)) dX5_islandsInsideClosedBy_22 5 rfl [5, 6, 7, 8, 9, 10, 11, 12] rfl rfl rfl (by decide) rfl (Nat.le_of_ble_eq_true rfl) ⟨by decide, by decide⟩ ?_
        refine xiload_1 C dX5_islandsInsideClosedBy_25 ?_
        refine xcallVi0 C m_X2_isClosedBy k_X5_237 (c_X2_isClosedBy l G tc aK ko kc ki kr ku _ w) dX5_islandsInsideClosedBy_26 1 rfl [1, 2, 3, 4] rfl rfl rfl (by decide) rfl (Nat.le_of_ble_eq_true rfl) ⟨by decide, by decide⟩ ?_
        refine xif_eq C (tgt := 34) dX5_islandsInsideClosedBy_29 (by decide) (fun h29 => ?_) (fun h29 => ?_)
        · skip
          have h29 := bI0 h29
          refine xiinc_2 C (nI (j + 1)) dX5_islandsInsideClosedBy_34 (nI_1 j) rfl (by decide) ?_
          refine xgoto C (tgt := 2) dX5_islandsInsideClosedBy_37 (by decide) ?_
          exact ih (j + 1) (by omega) (by rw [← hz, if_neg (by rw [h29]; exact Bool.false_ne_true)])
        · skip
          have h29 := bI1 h29
          refine xiload_2 C dX5_islandsInsideClosedBy_32 ?_
          exact xiret C dX5_islandsInsideClosedBy_33 (by rw [← hz, if_pos h29]; rfl) (rfl)
  refine xiconst C (nI 1) dX5_islandsInsideClosedBy_0 (by decide) ?_
  refine xistore_2 C dX5_islandsInsideClosedBy_1 rfl (by decide) ?_
  rcases Nat.lt_or_ge (iQ i) 1 with hq0 | hq0
  · have hz : none = iic ko kc (iK i) (iO i) (iQ i) w := by rw [iic, show iQ i - 1 = 0 by omega]; rfl
    refine xiload_2 C dX5_islandsInsideClosedBy_2 ?_
    refine xaload_0 C dX5_islandsInsideClosedBy_3 ?_
    refine xget C 0 f_X5_26 dX5_islandsInsideClosedBy_4 rfl rfl ?_
    refine xget C 5 f_X5_132 dX5_islandsInsideClosedBy_7 rfl rfl ?_
    refine xicmp_ge C (tgt := 40) dX5_islandsInsideClosedBy_10 (by decide) (fun h10 => ?_) (fun h10 => ?_)
    · skip
      refine xiconst C (-1) dX5_islandsInsideClosedBy_40 (by decide) ?_
      exact xiret C dX5_islandsInsideClosedBy_41 (by rw [← hz]; rfl) (rfl)
    · skip
      exact absurd (show nI (iQ i) ≤ nI 1 from nI_le (by omega) (by decide)) h10
  · exact loop (iQ i - 1) 1 (by omega) rfl
set_option maxHeartbeats 4000000 in
set_option maxRecDepth 100000 in
theorem c_X5_takesOuterClosing (l : Launch) (G : va_G) (tc : Nat → ClassId) (a0 : Nat) (aT aK aI aM aB : Nat → Nat) (lt : Bool) (ko kc ki : Nat → Int32) (kr ku : Int32) (i : IS) (hi : iOk i) (w x y : Int32) : kI l yX5_takesOuterClosing (xw yX5_takesOuterClosing cX5_takesOuterClosing 5 (some .boolean)) 3 G tc [.ref a0, .int w, .int x, .int y] (wO a0 aT aK aI aM aB lt ++ (wK tc aK ko kc ki kr ku ++ wIs tc aI (i))) (bI (toc lt ko kc w x y i).1) (wO a0 aT aK aI aM aB lt ++ (wK tc aK ko kc ki kr ku ++ wIs tc aI ((toc lt ko kc w x y i).2))) := by
  refine kI_of [some (.ref a0), some (.int w), some (.int x), some (.int y), none] 1 (by decide) (Nat.le_of_ble_eq_true rfl) rfl ?_
  intro p e s m args below meth c A C
  have hq48 := hi.2.1
  refine xaload_0 C dX5_takesOuterClosing_0 ?_
  refine xiload_1 C dX5_takesOuterClosing_1 ?_
  refine xcallViA C m_X5_islandsInsideClosedBy k_X5_259 (c_X5_islandsInsideClosedBy l G tc a0 aT aK aI aM aB lt ko kc ki kr ku i hi w) dX5_takesOuterClosing_2 0 rfl rfl rfl (by decide) rfl (Nat.le_of_ble_eq_true rfl) ⟨by decide, by decide⟩ ?_
  cases hc : iic ko kc (iK i) (iO i) (iQ i) w with
  | none =>
    have htoc : toc lt ko kc w x y i = (false, i) := by rw [toc, hc]
    refine xistore_4 C dX5_takesOuterClosing_5 rfl (by decide) ?_
    refine xiload_4 C dX5_takesOuterClosing_7 ?_
    refine xiconst C (-1) dX5_takesOuterClosing_9 (by decide) ?_
    refine xicmp_ne C (tgt := 15) dX5_takesOuterClosing_10 (by decide) (fun h10 => ?_) (fun h10 => ?_)
    · skip
      exact absurd rfl h10
    · skip
      refine xiconst C (0) dX5_takesOuterClosing_13 (by decide) ?_
      exact xzret C dX5_takesOuterClosing_14 (rfl) (by rw [htoc]; rfl) (by rw [htoc])
  | some g =>
    have hg := iicG_lt hc
    have htoc : toc lt ko kc w x y i = (true, if lt = true then fnI y 0 (guG x 1 g i) else lfI i) := by rw [toc, hc]
    refine xistore_4 C dX5_takesOuterClosing_5 rfl (by decide) ?_
    refine xiload_4 C dX5_takesOuterClosing_7 ?_
    refine xiconst C (-1) dX5_takesOuterClosing_9 (by decide) ?_
    refine xicmp_ne C (tgt := 15) dX5_takesOuterClosing_10 (by decide) (fun h10 => ?_) (fun h10 => ?_)
    · skip
      refine xaload_0 C dX5_takesOuterClosing_15 ?_
      refine xget C 0 f_X5_44 dX5_takesOuterClosing_16 rfl rfl ?_
      refine xif_eq C (tgt := 42) dX5_takesOuterClosing_19 (by decide) (fun h19 => ?_) (fun h19 => ?_)
      · skip
        have h19 := bI0 h19
        have htoc : toc lt ko kc w x y i = (true, lfI i) := by rw [htoc, if_neg (by rw [h19]; exact Bool.false_ne_true)]
        refine xaload_0 C dX5_takesOuterClosing_42 ?_
        refine xget C 0 f_X5_26 dX5_takesOuterClosing_43 rfl rfl ?_
        refine xdup C dX5_takesOuterClosing_46 rfl ?_
        refine xget C 5 f_X5_152 dX5_takesOuterClosing_47 rfl rfl ?_
        refine xiconst C (1) dX5_takesOuterClosing_50 (by decide) ?_
        refine xiadd C dX5_takesOuterClosing_51 ?_
        refine xtop (w := .int (nI (iL i + 1))) (congrArg Value.int (nI_1 _)) ?_
        refine xput C 5 (wO a0 aT aK aI aM aB lt ++ (wK tc aK ko kc ki kr ku ++ wIs tc aI (lfI i))) fw_X5_152 dX5_takesOuterClosing_52 rfl (Nat.le_of_ble_eq_true rfl) rfl rfl rfl ?_
        refine xiconst C (1) dX5_takesOuterClosing_55 (by decide) ?_
        exact xzret C dX5_takesOuterClosing_56 (rfl) (by rw [htoc]; rfl) (by rw [htoc])
      · skip
        have h19 := bI1 h19
        have htoc : toc lt ko kc w x y i = (true, fnI y 0 (guG x 1 g i)) := by rw [htoc, if_pos h19]
        refine xaload_0 C dX5_takesOuterClosing_22 ?_
        refine xiload_4 C dX5_takesOuterClosing_23 ?_
        refine xiload_2 C dX5_takesOuterClosing_25 ?_
        refine xiconst C (nI 1) dX5_takesOuterClosing_26 (by decide) ?_
        refine xcallVv C m_X5_giveUp k_X5_135 (c_X5_giveUp l G tc a0 aT aK aI aM aB lt i hi g (by omega) x (nI 1) _ rfl) dX5_takesOuterClosing_27 0 rfl [0, 5, 6, 7, 8, 9, 10, 11, 12] (wO a0 aT aK aI aM aB lt ++ (wK tc aK ko kc ki kr ku ++ wIs tc aI (guG x (nI 1) g i))) rfl rfl rfl rfl rfl (by decide) rfl (Nat.le_of_ble_eq_true rfl) ⟨by decide, by decide⟩ ?_
        refine xaload_0 C dX5_takesOuterClosing_30 ?_
        refine xget C 0 f_X5_26 dX5_takesOuterClosing_31 rfl rfl ?_
        refine xiload_3 C dX5_takesOuterClosing_34 ?_
        refine xiconst C (nI 0) dX5_takesOuterClosing_35 (by decide) ?_
        refine xcallVv C m_X1_finish k_X5_240 (c_fin l G tc aI (guG x (nI 1) g i) (iOk_gu hi) (by rw [iQ_gu]; omega) y (nI 0)) dX5_takesOuterClosing_36 5 rfl [5, 6, 7, 8, 9, 10, 11, 12] (wO a0 aT aK aI aM aB lt ++ (wK tc aK ko kc ki kr ku ++ wIs tc aI (fnI y (nI 0) (guG x (nI 1) g i)))) rfl rfl rfl rfl rfl (by decide) rfl (Nat.le_of_ble_eq_true rfl) ⟨by decide, by decide⟩ ?_
        refine xgoto C (tgt := 55) dX5_takesOuterClosing_39 (by decide) ?_
        refine xiconst C (1) dX5_takesOuterClosing_55 (by decide) ?_
        exact xzret C dX5_takesOuterClosing_56 (rfl) (by rw [htoc]; rfl) (by rw [htoc]; rfl)
    · skip
      exact absurd h10 (nI_m1 (by omega))
set_option maxHeartbeats 4000000 in
set_option maxRecDepth 100000 in
theorem c_X5_takesWord (l : Launch) (G : va_G) (tc : Nat → ClassId) (a0 : Nat) (aT aK aI aM aB : Nat → Nat) (lt : Bool) (ko kc ki : Nat → Int32) (kr ku : Int32) (i : IS) (hi : iOk i) (hm : iM i < 48) (w x y : Int32) : kI l yX5_takesWord (xw yX5_takesWord cX5_takesWord 6 (some .boolean)) 4 G tc [.ref a0, .int w, .int x, .int y] (wO a0 aT aK aI aM aB lt ++ (wK tc aK ko kc ki kr ku ++ wIs tc aI (i))) (bI (tkw lt ko kc ki kr ku w x y i).1) (wO a0 aT aK aI aM aB lt ++ (wK tc aK ko kc ki kr ku ++ wIs tc aI ((tkw lt ko kc ki kr ku w x y i).2))) := by
  refine kI_of [some (.ref a0), some (.int w), some (.int x), some (.int y), none, none] 2 (by decide) (Nat.le_of_ble_eq_true rfl) rfl ?_
  intro p e s m args below meth c A C
  have hq48 := hi.2.1
  refine xaload_0 C dX5_takesWord_0 ?_
  refine xget C 0 f_X5_26 dX5_takesWord_1 rfl rfl ?_
  refine xcallVi0 C m_X1_innermostKind k_X5_233 (c_inn l G tc aI i hi) dX5_takesWord_4 5 rfl [5, 6, 7, 8, 9, 10, 11, 12] rfl rfl rfl (by decide) rfl (Nat.le_of_ble_eq_true rfl) ⟨by decide, by decide⟩ ?_
  refine xistore_4 C dX5_takesWord_7 rfl (by decide) ?_
  refine xaload_0 C dX5_takesWord_9 ?_
  refine xget C 0 f_X5_19 dX5_takesWord_10 rfl rfl ?_
  refine xiload_4 C dX5_takesWord_13 ?_
  refine xiload_1 C dX5_takesWord_15 ?_
  refine xcallVi0 C m_X2_isClosedBy k_X5_237 (c_X2_isClosedBy l G tc aK ko kc ki kr ku _ w) dX5_takesWord_16 1 rfl [1, 2, 3, 4] rfl rfl rfl (by decide) rfl (Nat.le_of_ble_eq_true rfl) ⟨by decide, by decide⟩ ?_
  refine xif_eq C (tgt := 33) dX5_takesWord_19 (by decide) (fun h19 => ?_) (fun h19 => ?_)
  · skip
    have h19 := bI0 h19
    refine xaload_0 C dX5_takesWord_33 ?_
    refine xget C 0 f_X5_19 dX5_takesWord_34 rfl rfl ?_
    refine xiload_1 C dX5_takesWord_37 ?_
    refine xcallVi0 C m_X2_openedBy k_X5_244 (c_X2_openedBy l G tc aK ko kc ki kr ku w) dX5_takesWord_38 1 rfl [1, 2, 3, 4] rfl rfl rfl (by decide) rfl (Nat.le_of_ble_eq_true rfl) ⟨by decide, by decide⟩ ?_
    refine xaload_0 C dX5_takesWord_41 ?_
    refine xget C 0 f_X5_19 dX5_takesWord_42 rfl rfl ?_
    refine xiload_4 C dX5_takesWord_45 ?_
    refine xcallVi0 C m_X2_allowedIn k_X5_247 (c_X2_allowedIn l G tc aK ko kc ki kr ku _) dX5_takesWord_47 1 rfl [1, 2, 3, 4] rfl rfl rfl (by decide) rfl (Nat.le_of_ble_eq_true rfl) ⟨by decide, by decide⟩ ?_
    refine xiand C dX5_takesWord_50 ?_
    refine xistore_5 C dX5_takesWord_51 rfl (by decide) ?_
    refine xiload_5 C dX5_takesWord_53 ?_
    refine xif_eq C (tgt := 85) dX5_takesWord_55 (by decide) (fun h55 => ?_) (fun h55 => ?_)
    · skip
      have hop : (!decide ((kw ko kc ko w &&& alw ki kr ku (okd (iK i) (iO i) (iQ i) 0)) = 0) && decide (iQ i < 8)) = false := by simp [h55]
      refine xiload_4 C dX5_takesWord_85 ?_
      refine xbipush C (6) dX5_takesWord_87 (by decide) ?_
      refine xicmp_eq C (tgt := 107) dX5_takesWord_89 (by decide) (fun h89 => ?_) (fun h89 => ?_)
      · skip
        have htk : tkw lt ko kc ki kr ku w x y i = (false, i) := by rw [tkw, if_neg (by rw [h19]; exact Bool.false_ne_true), if_neg (by rw [hop]; exact Bool.false_ne_true), if_pos (by simp [h89])]
        refine xiconst C (0) dX5_takesWord_107 (by decide) ?_
        exact xzret C dX5_takesWord_108 (rfl) (by rw [htk]; rfl) (by rw [htk])
      · skip
        refine xaload_0 C dX5_takesWord_92 ?_
        refine xget C 0 f_X5_19 dX5_takesWord_93 rfl rfl ?_
        refine xget C 1 f_X5_112 dX5_takesWord_96 rfl rfl ?_
        refine xiload_4 C dX5_takesWord_99 ?_
        refine xcallSi0 C m_X5_holdsKind k_X5_204 (c_X5_holdsKind l G tc kr _) dX5_takesWord_101 ([] : List Nat) rfl rfl rfl (by decide) rfl (Nat.le_of_ble_eq_true rfl) ⟨by decide, by decide⟩ ?_
        refine xif_eq C (tgt := 109) dX5_takesWord_104 (by decide) (fun h104 => ?_) (fun h104 => ?_)
        · skip
          have h104 := bI0 h104
          have htk : tkw lt ko kc ki kr ku w x y i = toc lt ko kc w x y i := by rw [tkw, if_neg (by rw [h19]; exact Bool.false_ne_true), if_neg (by rw [hop]; exact Bool.false_ne_true), if_neg (by simp [h89, h104])]
          refine xaload_0 C dX5_takesWord_109 ?_
          refine xiload_1 C dX5_takesWord_110 ?_
          refine xiload_2 C dX5_takesWord_111 ?_
          refine xiload_3 C dX5_takesWord_112 ?_
          refine xcallViA C m_X5_takesOuterClosing k_X5_256 (c_X5_takesOuterClosing l G tc a0 aT aK aI aM aB lt ko kc ki kr ku i hi w x y) dX5_takesWord_113 0 rfl rfl rfl (by decide) rfl (Nat.le_of_ble_eq_true rfl) ⟨by decide, by decide⟩ ?_
          exact xzret C dX5_takesWord_116 (by first | rfl | exact bI_nar _) (by rw [htk]) (by rw [htk])
        · skip
          have h104 := bI1 h104
          have htk : tkw lt ko kc ki kr ku w x y i = (false, i) := by rw [tkw, if_neg (by rw [h19]; exact Bool.false_ne_true), if_neg (by rw [hop]; exact Bool.false_ne_true), if_pos (by simp [h104])]
          refine xiconst C (0) dX5_takesWord_107 (by decide) ?_
          exact xzret C dX5_takesWord_108 (rfl) (by rw [htk]; rfl) (by rw [htk])
    · skip
      refine xaload_0 C dX5_takesWord_58 ?_
      refine xget C 0 f_X5_26 dX5_takesWord_59 rfl rfl ?_
      refine xget C 5 f_X5_132 dX5_takesWord_62 rfl rfl ?_
      refine xbipush C (8) dX5_takesWord_65 (by decide) ?_
      refine xicmp_ge C (tgt := 85) dX5_takesWord_67 (by decide) (fun h67 => ?_) (fun h67 => ?_)
      · skip
        have h67 : ¬ iQ i < 8 := fun q => absurd h67 (nI_ge q (by decide))
        have hop : (!decide ((kw ko kc ko w &&& alw ki kr ku (okd (iK i) (iO i) (iQ i) 0)) = 0) && decide (iQ i < 8)) = false := by simp [h67]
        refine xiload_4 C dX5_takesWord_85 ?_
        refine xbipush C (6) dX5_takesWord_87 (by decide) ?_
        refine xicmp_eq C (tgt := 107) dX5_takesWord_89 (by decide) (fun h89 => ?_) (fun h89 => ?_)
        · skip
          have htk : tkw lt ko kc ki kr ku w x y i = (false, i) := by rw [tkw, if_neg (by rw [h19]; exact Bool.false_ne_true), if_neg (by rw [hop]; exact Bool.false_ne_true), if_pos (by simp [h89])]
          refine xiconst C (0) dX5_takesWord_107 (by decide) ?_
          exact xzret C dX5_takesWord_108 (rfl) (by rw [htk]; rfl) (by rw [htk])
        · skip
          refine xaload_0 C dX5_takesWord_92 ?_
          refine xget C 0 f_X5_19 dX5_takesWord_93 rfl rfl ?_
          refine xget C 1 f_X5_112 dX5_takesWord_96 rfl rfl ?_
          refine xiload_4 C dX5_takesWord_99 ?_
          refine xcallSi0 C m_X5_holdsKind k_X5_204 (c_X5_holdsKind l G tc kr _) dX5_takesWord_101 ([] : List Nat) rfl rfl rfl (by decide) rfl (Nat.le_of_ble_eq_true rfl) ⟨by decide, by decide⟩ ?_
          refine xif_eq C (tgt := 109) dX5_takesWord_104 (by decide) (fun h104 => ?_) (fun h104 => ?_)
          · skip
            have h104 := bI0 h104
            have htk : tkw lt ko kc ki kr ku w x y i = toc lt ko kc w x y i := by rw [tkw, if_neg (by rw [h19]; exact Bool.false_ne_true), if_neg (by rw [hop]; exact Bool.false_ne_true), if_neg (by simp [h89, h104])]
            refine xaload_0 C dX5_takesWord_109 ?_
            refine xiload_1 C dX5_takesWord_110 ?_
            refine xiload_2 C dX5_takesWord_111 ?_
            refine xiload_3 C dX5_takesWord_112 ?_
            refine xcallViA C m_X5_takesOuterClosing k_X5_256 (c_X5_takesOuterClosing l G tc a0 aT aK aI aM aB lt ko kc ki kr ku i hi w x y) dX5_takesWord_113 0 rfl rfl rfl (by decide) rfl (Nat.le_of_ble_eq_true rfl) ⟨by decide, by decide⟩ ?_
            exact xzret C dX5_takesWord_116 (by first | rfl | exact bI_nar _) (by rw [htk]) (by rw [htk])
          · skip
            have h104 := bI1 h104
            have htk : tkw lt ko kc ki kr ku w x y i = (false, i) := by rw [tkw, if_neg (by rw [h19]; exact Bool.false_ne_true), if_neg (by rw [hop]; exact Bool.false_ne_true), if_pos (by simp [h104])]
            refine xiconst C (0) dX5_takesWord_107 (by decide) ?_
            exact xzret C dX5_takesWord_108 (rfl) (by rw [htk]; rfl) (by rw [htk])
      · skip
        have h67 : iQ i < 8 := by
          rcases Nat.lt_or_ge (iQ i) 8 with q | q
          · exact q
          · exact absurd (show nI 8 ≤ nI (iQ i) from nI_le q (by omega)) h67
        have htk : tkw lt ko kc ki kr ku w x y i = (true, bgI (oI (skG (kw ko kc ko w &&& alw ki kr ku (okd (iK i) (iO i) (iQ i) 0)) 6 0)) x i) := by rw [tkw, if_neg (by rw [h19]; exact Bool.false_ne_true), if_pos (by simp [h55, h67])]
        refine xaload_0 C dX5_takesWord_70 ?_
        refine xget C 0 f_X5_26 dX5_takesWord_71 rfl rfl ?_
        refine xiload_5 C dX5_takesWord_74 ?_
        refine xcallSi0 C m_X5_smallestKind k_X5_250 (c_X5_smallestKind l G tc _) dX5_takesWord_76 ([] : List Nat) rfl rfl rfl (by decide) rfl (Nat.le_of_ble_eq_true rfl) ⟨by decide, by decide⟩ ?_
        refine xiload_2 C dX5_takesWord_79 ?_
        refine xcallVv C m_X1_begin k_X5_253 (c_beg l G tc aI i hm (by omega) _ x) dX5_takesWord_80 5 rfl [5, 6, 7, 8, 9, 10, 11, 12] (wO a0 aT aK aI aM aB lt ++ (wK tc aK ko kc ki kr ku ++ wIs tc aI (bgI (oI (skG (kw ko kc ko w &&& alw ki kr ku (okd (iK i) (iO i) (iQ i) 0)) 6 0)) x i))) rfl rfl rfl rfl rfl (by decide) rfl (Nat.le_of_ble_eq_true rfl) ⟨by decide, by decide⟩ ?_
        refine xiconst C (1) dX5_takesWord_83 (by decide) ?_
        exact xzret C dX5_takesWord_84 (rfl) (by rw [htk]; rfl) (by rw [htk])
  · skip
    have h19 := bI1 h19
    have htk : tkw lt ko kc ki kr ku w x y i = (true, fnI y 0 i) := by rw [tkw, if_pos h19]
    refine xaload_0 C dX5_takesWord_22 ?_
    refine xget C 0 f_X5_26 dX5_takesWord_23 rfl rfl ?_
    refine xiload_3 C dX5_takesWord_26 ?_
    refine xiconst C (nI 0) dX5_takesWord_27 (by decide) ?_
    refine xcallVv C m_X1_finish k_X5_240 (c_fin l G tc aI i hi (clb_q h19) y (nI 0)) dX5_takesWord_28 5 rfl [5, 6, 7, 8, 9, 10, 11, 12] (wO a0 aT aK aI aM aB lt ++ (wK tc aK ko kc ki kr ku ++ wIs tc aI (fnI y (nI 0) i))) rfl rfl rfl rfl rfl (by decide) rfl (Nat.le_of_ble_eq_true rfl) ⟨by decide, by decide⟩ ?_
    refine xiconst C (1) dX5_takesWord_31 (by decide) ?_
    exact xzret C dX5_takesWord_32 (rfl) (by rw [htk]; rfl) (by rw [htk]; rfl)
set_option maxHeartbeats 4000000 in
set_option maxRecDepth 100000 in
theorem c_X5_readWordAt (l : Launch) (G : va_G) (tc : Nat → ClassId) (a0 : Nat) (aT aK aI aM aB : Nat → Nat) (lt : Bool) (b : Nat → Int32) (n : Nat) (ec : Int32) (ko kc ki : Nat → Int32) (kr ku : Int32) (i : IS) (hi : iOk i) (hm : iM i < 48) (hn : n ≤ 48) (j : Nat) (hj : j < n) : kI l yX5_readWordAt (xw yX5_readWordAt cX5_readWordAt 4 (some .int)) 5 G tc [.ref a0, .int (nI j)] (wO a0 aT aK aI aM aB lt ++ (wT tc aT b n ec ++ (wK tc aK ko kc ki kr ku ++ wIs tc aI (i)))) (nI (rw3 lt b n ec ko kc ki kr ku j i).1) (wO a0 aT aK aI aM aB lt ++ (wT tc aT b n ec ++ (wK tc aK ko kc ki kr ku ++ wIs tc aI ((rw3 lt b n ec ko kc ki kr ku j i).2)))) := by
  refine kI_of [some (.ref a0), some (.int (nI j)), none, none] 2 (by decide) (Nat.le_of_ble_eq_true rfl) rfl ?_
  intro p e s m args below meth c A C
  have loop : ∀ (q : Nat), q ≤ 3 → rwG lt b n ec ko kc ki kr ku j i q = rw3 lt b n ec ko kc ki kr ku j i → xAT p l e (xR 5 0 0) s m args below meth c (xQi below args s G A (nI (rw3 lt b n ec ko kc ki kr ku j i).1) (wO a0 aT aK aI aM aB lt ++ (wT tc aT b n ec ++ (wK tc aK ko kc ki kr ku ++ wIs tc aI ((rw3 lt b n ec ko kc ki kr ku j i).2))))) G A 4 0 0 (wO a0 aT aK aI aM aB lt ++ (wT tc aT b n ec ++ (wK tc aK ko kc ki kr ku ++ wIs tc aI (i)))) [some (.ref a0), some (.int (nI j)), some (.int (nI q)), none] 2 [] := by
    intro q
    induction q with
    | zero =>
      intro hq hz
      have hz : (1, i) = rw3 lt b n ec ko kc ki kr ku j i := hz
      refine xiload_2 C dX5_readWordAt_2 ?_
      refine xiconst C (1) dX5_readWordAt_3 (by decide) ?_
      refine xicmp_lt C (tgt := 41) dX5_readWordAt_4 (by decide) (fun h4 => ?_) (fun h4 => ?_)
      · skip
        refine xiconst C (1) dX5_readWordAt_41 (by decide) ?_
        exact xiret C dX5_readWordAt_42 (by rw [← hz]; rfl) (by rw [← hz])
      · skip
        exact absurd (by decide) h4
    | succ q ih =>
      intro hq hz
      rw [rwG] at hz
      refine xiload_2 C dX5_readWordAt_2 ?_
      refine xiconst C (1) dX5_readWordAt_3 (by decide) ?_
      refine xicmp_lt C (tgt := 41) dX5_readWordAt_4 (by decide) (fun h4 => ?_) (fun h4 => ?_)
      · skip
        exact absurd h4 (by rw [show (1 : Int32) = nI 1 from rfl]; exact nI_nlt (by omega) (by omega))
      · skip
        refine xaload_0 C dX5_readWordAt_7 ?_
        refine xget C 0 f_X5_10 dX5_readWordAt_8 rfl rfl ?_
        refine xiload_1 C dX5_readWordAt_11 ?_
        refine xiload_2 C dX5_readWordAt_12 ?_
        refine xcallVi0 C m_X4_wordAt k_X5_225 (c_X4_wordAt l G tc aT b n ec hn j (q + 1) (by omega) (by omega) (by omega)) dX5_readWordAt_13 1 rfl [1, 2] rfl rfl rfl (by decide) rfl (Nat.le_of_ble_eq_true rfl) ⟨by decide, by decide⟩ ?_
        refine xistore_3 C dX5_readWordAt_16 rfl (by decide) ?_
        refine xiload_3 C dX5_readWordAt_17 ?_
        refine xif_eq C (tgt := 35) dX5_readWordAt_18 (by decide) (fun h18 => ?_) (fun h18 => ?_)
        · skip
          refine xiinc_2 C (nI q) dX5_readWordAt_35 ((i32_m1 _).trans (nI_pred q)) rfl (by decide) ?_
          refine xgoto C (tgt := 2) dX5_readWordAt_38 (by decide) ?_
          refine xfg_3 ?_
          exact ih (by omega) (by rw [← hz, if_neg (by simp [h18])])
        · skip
          refine xaload_0 C dX5_readWordAt_21 ?_
          refine xiload_3 C dX5_readWordAt_22 ?_
          refine xiload_1 C dX5_readWordAt_23 ?_
          refine xiload_1 C dX5_readWordAt_24 ?_
          refine xiload_2 C dX5_readWordAt_25 ?_
          refine xiadd C dX5_readWordAt_26 ?_
          rw [nI_add]
          refine xcallVi C m_X5_takesWord k_X5_229 (c_X5_takesWord l G tc a0 aT aK aI aM aB lt ko kc ki kr ku i hi hm (wAt b n ec j (q + 1)) (nI j) (nI (j + (q + 1)))) dX5_readWordAt_27 0 rfl [0, 3, 4, 5, 6, 7, 8, 9, 10, 11, 12, 13, 14] (wO a0 aT aK aI aM aB lt ++ (wT tc aT b n ec ++ (wK tc aK ko kc ki kr ku ++ wIs tc aI ((tkw lt ko kc ki kr ku (wAt b n ec j (q + 1)) (nI j) (nI (j + (q + 1))) i).2)))) rfl rfl rfl rfl rfl (by decide) rfl (Nat.le_of_ble_eq_true rfl) ⟨by decide, by decide⟩ ?_
          refine xif_eq C (tgt := 35) dX5_readWordAt_30 (by decide) (fun h30 => ?_) (fun h30 => ?_)
          · skip
            have h30 := bI0 h30
            refine xiinc_2 C (nI q) dX5_readWordAt_35 ((i32_m1 _).trans (nI_pred q)) rfl (by decide) ?_
            refine xgoto C (tgt := 2) dX5_readWordAt_38 (by decide) ?_
            refine xws (w' := wO a0 aT aK aI aM aB lt ++ (wT tc aT b n ec ++ (wK tc aK ko kc ki kr ku ++ wIs tc aI (i)))) (by rw [tkw_f h30]) ?_
            refine xfg_3 ?_
            exact ih (by omega) (by rw [← hz, if_neg (by simp [h30])])
          · skip
            have h30 := bI1 h30
            refine xiload_2 C dX5_readWordAt_33 ?_
            exact xiret C dX5_readWordAt_34 (by rw [← hz, if_pos (by simp [h18, h30])]) (by rw [← hz, if_pos (by simp [h18, h30])])
  refine xiconst C (nI 3) dX5_readWordAt_0 (by decide) ?_
  refine xistore_2 C dX5_readWordAt_1 rfl (by decide) ?_
  exact loop 3 (Nat.le_refl _) rfl
set_option maxHeartbeats 4000000 in
set_option maxRecDepth 100000 in
theorem c_X5_quick (l : Launch) (G : va_G) (tc : Nat → ClassId) (a0 : Nat) (aT aK aI aM aB : Nat → Nat) (lt : Bool) (b : Nat → Int32) (n : Nat) (ec : Int32) (ko kc ki : Nat → Int32) (kr ku : Int32) (i0 : IS) (hn : n ≤ 48) (r : IS) (hr : qkG lt b n ec ko kc ki kr ku n 0 0 (iK i0, iA i0, iE i0, iT i0, iP i0, iD i0, iO i0, 0, 0, 0, true) = r) : kI l yX5_quick (xw yX5_quick cX5_quick 3 (some .int)) 6 G tc [.ref a0] (wO a0 aT aK aI aM aB lt ++ (wT tc aT b n ec ++ (wK tc aK ko kc ki kr ku ++ wIs tc aI (i0)))) (nI (iM (guG (nI n) (nI 2) (iQ r) r))) (wO a0 aT aK aI aM aB lt ++ (wT tc aT b n ec ++ (wK tc aK ko kc ki kr ku ++ wIs tc aI (guG (nI n) (nI 2) (iQ r) r)))) := by
  refine kI_of [some (.ref a0), none, none] 2 (by decide) (Nat.le_of_ble_eq_true rfl) rfl ?_
  intro p e s m args below meth c A C
  have loop : ∀ (f j nx : Nat) (i : IS), j + f = n → nx ≤ 60 → qOk j i → qkG lt b n ec ko kc ki kr ku f j nx i = r → xAT p l e (xR 6 0 0) s m args below meth c (xQi below args s G A (nI (iM (guG (nI n) (nI 2) (iQ r) r))) (wO a0 aT aK aI aM aB lt ++ (wT tc aT b n ec ++ (wK tc aK ko kc ki kr ku ++ wIs tc aI (guG (nI n) (nI 2) (iQ r) r))))) G A 3 0 0 (wO a0 aT aK aI aM aB lt ++ (wT tc aT b n ec ++ (wK tc aK ko kc ki kr ku ++ wIs tc aI (i)))) [some (.ref a0), some (.int (nI nx)), some (.int (nI j))] 11 [] := by
    intro f
    induction f with
    | zero =>
      intro j nx i hj hx hok hz
      have hj : j = n := hj
      subst hj
      have hz : i = r := hz
      subst hz
      have hi := qOk_i hok hn
      refine xiload_2 C dX5_quick_11 ?_
      refine xaload_0 C dX5_quick_12 ?_
      refine xget C 0 f_X5_10 dX5_quick_13 rfl rfl ?_
      refine xget C 1 f_X5_59 dX5_quick_16 rfl rfl ?_
      refine xicmp_ge C (tgt := 56) dX5_quick_19 (by decide) (fun h19 => ?_) (fun h19 => ?_)
      · skip
        refine xaload_0 C dX5_quick_56 ?_
        refine xaload_0 C dX5_quick_57 ?_
        refine xget C 0 f_X5_26 dX5_quick_58 rfl rfl ?_
        refine xget C 7 f_X5_132 dX5_quick_61 rfl rfl ?_
        refine xaload_0 C dX5_quick_64 ?_
        refine xget C 0 f_X5_10 dX5_quick_65 rfl rfl ?_
        refine xget C 1 f_X5_59 dX5_quick_68 rfl rfl ?_
        refine xiconst C (nI 2) dX5_quick_71 (by decide) ?_
        refine xcallVv C m_X5_giveUp k_X5_135 (c_X5_giveUp l G tc a0 aT aK aI aM aB lt i hi (iQ i) (Nat.le_refl _) (nI j) (nI 2) _ rfl) dX5_quick_72 0 rfl [0, 7, 8, 9, 10, 11, 12, 13, 14] (wO a0 aT aK aI aM aB lt ++ (wT tc aT b j ec ++ (wK tc aK ko kc ki kr ku ++ wIs tc aI (guG (nI j) (nI 2) (iQ i) i)))) rfl rfl rfl rfl rfl (by decide) rfl (Nat.le_of_ble_eq_true rfl) ⟨by decide, by decide⟩ ?_
        refine xaload_0 C dX5_quick_75 ?_
        refine xget C 0 f_X5_26 dX5_quick_76 rfl rfl ?_
        refine xget C 7 f_X5_139 dX5_quick_79 rfl rfl ?_
        exact xiret C dX5_quick_82 (rfl) (rfl)
      · skip
        exact absurd (Int32.le_refl _) h19
    | succ f ih =>
      intro j nx i hj hx hok hz
      have hjn : j < n := by omega
      have hi := qOk_i hok (by omega)
      rw [qkG] at hz
      refine xiload_2 C dX5_quick_11 ?_
      refine xaload_0 C dX5_quick_12 ?_
      refine xget C 0 f_X5_10 dX5_quick_13 rfl rfl ?_
      refine xget C 1 f_X5_59 dX5_quick_16 rfl rfl ?_
      refine xicmp_ge C (tgt := 56) dX5_quick_19 (by decide) (fun h19 => ?_) (fun h19 => ?_)
      · skip
        exact absurd h19 (nI_ge hjn (by omega))
      · skip
        refine xiload_2 C dX5_quick_22 ?_
        refine xiload_1 C dX5_quick_23 ?_
        refine xicmp_ne C (tgt := 50) dX5_quick_24 (by decide) (fun h24 => ?_) (fun h24 => ?_)
        · skip
          have h24 : ¬ j = nx := fun h => h24 (by rw [h])
          rw [if_neg h24] at hz
          refine xiinc_2 C (nI (j + 1)) dX5_quick_50 (nI_1 j) rfl (by decide) ?_
          refine xgoto C (tgt := 11) dX5_quick_53 (by decide) ?_
          exact ih (j + 1) nx i (by omega) hx (qOk_up hok (Nat.le_succ _)) hz
        · skip
          have h24 : j = nx := (nI_eq (by omega) (by omega)).mp h24
          rw [if_pos h24] at hz
          refine xiload_2 C dX5_quick_27 ?_
          refine xaload_0 C dX5_quick_28 ?_
          refine xget C 0 f_X5_10 dX5_quick_29 rfl rfl ?_
          refine xiload_2 C dX5_quick_32 ?_
          refine xcallVi0 C m_X4_isEscape k_X5_125 (c_X4_isEscape l G tc aT b n ec hn (nI j)) dX5_quick_33 1 rfl [1, 2] rfl rfl rfl (by decide) rfl (Nat.le_of_ble_eq_true rfl) ⟨by decide, by decide⟩ ?_
          refine xif_eq C (tgt := 43) dX5_quick_36 (by decide) (fun h36 => ?_) (fun h36 => ?_)
          · skip
            have h36 := bI0 h36
            rw [isEs_nI hjn hn] at h36
            have h36 := of_decide_eq_false h36
            rw [if_neg h36] at hz
            have hrw := qOk_rwG (lt := lt) (b := b) (n := n) (ec := ec) (ko := ko) (kc := kc) (ki := ki) (kr := kr) (ku := ku) hok (by omega) 3
            have hrw : qOk (j + 1) (rw3 lt b n ec ko kc ki kr ku j i).2 ∧ 1 ≤ (rw3 lt b n ec ko kc ki kr ku j i).1 ∧ (rw3 lt b n ec ko kc ki kr ku j i).1 ≤ 4 := hrw
            refine xaload_0 C dX5_quick_43 ?_
            refine xiload_2 C dX5_quick_44 ?_
            refine xcallViA C m_X5_readWordAt k_X5_128 (c_X5_readWordAt l G tc a0 aT aK aI aM aB lt b n ec ko kc ki kr ku i hi (by have := hok.1; omega) hn j hjn) dX5_quick_45 0 rfl rfl rfl (by decide) rfl (Nat.le_of_ble_eq_true rfl) ⟨by decide, by decide⟩ ?_
            refine xiadd C dX5_quick_48 ?_
            refine xtop (w := .int (nI (j + (rw3 lt b n ec ko kc ki kr ku j i).1))) (congrArg Value.int (nI_add j _)) ?_
            refine xistore_1 C dX5_quick_49 rfl (by decide) ?_
            refine xiinc_2 C (nI (j + 1)) dX5_quick_50 (nI_1 j) rfl (by decide) ?_
            refine xgoto C (tgt := 11) dX5_quick_53 (by decide) ?_
            exact ih (j + 1) (j + (rw3 lt b n ec ko kc ki kr ku j i).1) (rw3 lt b n ec ko kc ki kr ku j i).2 (by omega) (by have := hrw.2.2; omega) hrw.1 hz
          · skip
            have h36 := bI1 h36
            rw [isEs_nI hjn hn] at h36
            have h36 := of_decide_eq_true h36
            rw [if_pos h36] at hz
            refine xiconst C (2) dX5_quick_39 (by decide) ?_
            refine xgoto C (tgt := 48) dX5_quick_40 (by decide) ?_
            refine xiadd C dX5_quick_48 ?_
            refine xtop (w := .int (nI (j + 2))) (congrArg Value.int (nI_add j _)) ?_
            refine xistore_1 C dX5_quick_49 rfl (by decide) ?_
            refine xiinc_2 C (nI (j + 1)) dX5_quick_50 (nI_1 j) rfl (by decide) ?_
            refine xgoto C (tgt := 11) dX5_quick_53 (by decide) ?_
            exact ih (j + 1) (j + 2) i (by omega) (by omega) (qOk_up hok (Nat.le_succ _)) hz
  refine xaload_0 C dX5_quick_0 ?_
  refine xget C 0 f_X5_26 dX5_quick_1 rfl rfl ?_
  refine xcallVv C m_X1_startReading k_X5_122 (c_X1_startReading l G tc aI (iK i0) (iA i0) (iE i0) (iT i0) (iP i0) (iD i0) (iO i0) (iM i0) (iQ i0) (iL i0) (iR i0)) dX5_quick_4 7 rfl [7, 8, 9, 10, 11, 12, 13, 14] (wO a0 aT aK aI aM aB lt ++ (wT tc aT b n ec ++ (wK tc aK ko kc ki kr ku ++ wIs tc aI ((iK i0, iA i0, iE i0, iT i0, iP i0, iD i0, iO i0, 0, 0, 0, true))))) rfl rfl rfl rfl rfl (by decide) rfl (Nat.le_of_ble_eq_true rfl) ⟨by decide, by decide⟩ ?_
  refine xiconst C (nI 0) dX5_quick_7 (by decide) ?_
  refine xistore_1 C dX5_quick_8 rfl (by decide) ?_
  refine xiconst C (nI 0) dX5_quick_9 (by decide) ?_
  refine xistore_2 C dX5_quick_10 rfl (by decide) ?_
  exact loop n 0 0 _ (by omega) (by decide) ⟨Nat.le_refl _, Nat.zero_le _, fun r hr => absurd hr (Nat.not_lt_zero r)⟩ hr
