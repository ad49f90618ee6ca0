set_option maxHeartbeats 4000000 in
set_option maxRecDepth 100000 in
theorem c_X5_holdsKind (l : Launch) (G : va_G) (tc : Nat → ClassId) (q x : Int32) : kI l yX5_holdsKind (xw yX5_holdsKind cX5_holdsKind 2 (some .boolean)) 0 G tc [.int q, .int x] ([]) (bI (hk q x)) ([]) := by
  refine kI_of [some (.int q), some (.int x)] 0 (by decide) (Nat.le_of_ble_eq_true rfl) rfl ?_
  intro p e s m args below meth c A C
  refine xiload_0 C dX5_holdsKind_0 ?_
  refine xiload_1 C dX5_holdsKind_1 ?_
  refine xishr C dX5_holdsKind_2 ?_
  refine xiconst C (1) dX5_holdsKind_3 (by decide) ?_
  refine xiand C dX5_holdsKind_4 ?_
  refine xiconst C (1) dX5_holdsKind_5 (by decide) ?_
  refine xicmp_ne C (tgt := 13) dX5_holdsKind_6 (by decide) (fun h6 => ?_) (fun h6 => ?_)
  · skip
    refine xiconst C (0) dX5_holdsKind_13 (by decide) ?_
    exact xzret C dX5_holdsKind_14 (by first | rfl | exact bI_nar _) (by simp [bI, hk, *]) (rfl)
  · skip
    refine xiconst C (1) dX5_holdsKind_9 (by decide) ?_
    refine xgoto C (tgt := 14) dX5_holdsKind_10 (by decide) ?_
    exact xzret C dX5_holdsKind_14 (by first | rfl | exact bI_nar _) (by simp [bI, hk, *]) (rfl)
set_option maxHeartbeats 4000000 in
set_option maxRecDepth 100000 in
theorem c_X2_isComplete (l : Launch) (G : va_G) (tc : Nat → ClassId) (a : Nat → Nat) (ko kc ki : Nat → Int32) (kr ku : Int32) (x : Int32) : kI l yX2_isComplete (xw yX2_isComplete cX2_isComplete 2 (some .boolean)) 0 G tc [.ref (a 0), .int x] (wK tc a ko kc ki kr ku) (bI (cpl ko kc x)) (wK tc a ko kc ki kr ku) := by
  refine kI_of [some (.ref (a 0)), some (.int x)] 0 (by decide) (Nat.le_of_ble_eq_true rfl) rfl ?_
  intro p e s m args below meth c A C
  refine xiload_1 C dX2_isComplete_0 ?_
  refine xif_lt C (tgt := 32) dX2_isComplete_1 (by decide) (fun h1 => ?_) (fun h1 => ?_)
  · skip
    refine xiconst C (0) dX2_isComplete_32 (by decide) ?_
    exact xzret C dX2_isComplete_33 (by first | rfl | exact bI_nar _) (by simp [bI, cpl, *]) (rfl)
  · skip
    refine xiload_1 C dX2_isComplete_4 ?_
    refine xbipush C (6) dX2_isComplete_5 (by decide) ?_
    refine xicmp_ge C (tgt := 32) dX2_isComplete_7 (by decide) (fun h7 => ?_) (fun h7 => ?_)
    · skip
      refine xiconst C (0) dX2_isComplete_32 (by decide) ?_
      exact xzret C dX2_isComplete_33 (by first | rfl | exact bI_nar _) (by simp [bI, cpl, *]) (rfl)
    · skip
      refine xaload_0 C dX2_isComplete_10 ?_
      refine xget C 0 f_X2_9 dX2_isComplete_11 rfl rfl ?_
      refine xiload_1 C dX2_isComplete_14 ?_
      refine xiald C 1 dX2_isComplete_15 rfl (in6 h1 h7) ?_
      refine xif_eq C (tgt := 32) dX2_isComplete_16 (by decide) (fun h16 => ?_) (fun h16 => ?_)
      · skip
        refine xiconst C (0) dX2_isComplete_32 (by decide) ?_
        exact xzret C dX2_isComplete_33 (by first | rfl | exact bI_nar _) (by simp [bI, cpl, *]) (rfl)
      · skip
        refine xaload_0 C dX2_isComplete_19 ?_
        refine xget C 0 f_X2_15 dX2_isComplete_20 rfl rfl ?_
        refine xiload_1 C dX2_isComplete_23 ?_
        refine xiald C 2 dX2_isComplete_24 rfl (in6 h1 h7) ?_
        refine xif_eq C (tgt := 32) dX2_isComplete_25 (by decide) (fun h25 => ?_) (fun h25 => ?_)
        · skip
          refine xiconst C (0) dX2_isComplete_32 (by decide) ?_
          exact xzret C dX2_isComplete_33 (by first | rfl | exact bI_nar _) (by simp [bI, cpl, *]) (rfl)
        · skip
          refine xiconst C (1) dX2_isComplete_28 (by decide) ?_
          refine xgoto C (tgt := 33) dX2_isComplete_29 (by decide) ?_
          exact xzret C dX2_isComplete_33 (by first | rfl | exact bI_nar _) (by simp [bI, cpl, *]) (rfl)
set_option maxHeartbeats 4000000 in
set_option maxRecDepth 100000 in
theorem c_X2_isClosedBy (l : Launch) (G : va_G) (tc : Nat → ClassId) (a : Nat → Nat) (ko kc ki : Nat → Int32) (kr ku : Int32) (x w : Int32) : kI l yX2_isClosedBy (xw yX2_isClosedBy cX2_isClosedBy 3 (some .boolean)) 1 G tc [.ref (a 0), .int x, .int w] (wK tc a ko kc ki kr ku) (bI (clb ko kc x w)) (wK tc a ko kc ki kr ku) := by
  refine kI_of [some (.ref (a 0)), some (.int x), some (.int w)] 0 (by decide) (Nat.le_of_ble_eq_true rfl) rfl ?_
  intro p e s m args below meth c A C
  refine xaload_0 C dX2_isClosedBy_0 ?_
  refine xiload_1 C dX2_isClosedBy_1 ?_
  refine xcallVi0 C m_X2_isComplete k_X2_28 (c_X2_isComplete l G tc a ko kc ki kr ku x) dX2_isClosedBy_2 0 rfl [0, 1, 2, 3] rfl rfl rfl (by decide) rfl (Nat.le_of_ble_eq_true rfl) ⟨by decide, by decide⟩ ?_
  refine xif_eq C (tgt := 22) dX2_isClosedBy_5 (by decide) (fun h5 => ?_) (fun h5 => ?_)
  · skip
    have h5 := bI0 h5
    refine xiconst C (0) dX2_isClosedBy_22 (by decide) ?_
    exact xzret C dX2_isClosedBy_23 (by first | rfl | exact bI_nar _) (by simp [bI, clb, *]) (rfl)
  · skip
    have h5 := bI1 h5
    refine xaload_0 C dX2_isClosedBy_8 ?_
    refine xget C 0 f_X2_15 dX2_isClosedBy_9 rfl rfl ?_
    refine xiload_1 C dX2_isClosedBy_12 ?_
    refine xiald C 2 dX2_isClosedBy_13 rfl (cpl_in h5) ?_
    refine xiload_2 C dX2_isClosedBy_14 ?_
    refine xicmp_ne C (tgt := 22) dX2_isClosedBy_15 (by decide) (fun h15 => ?_) (fun h15 => ?_)
    · skip
      refine xiconst C (0) dX2_isClosedBy_22 (by decide) ?_
      exact xzret C dX2_isClosedBy_23 (by first | rfl | exact bI_nar _) (by simp [bI, clb, *]) (rfl)
    · skip
      refine xiconst C (1) dX2_isClosedBy_18 (by decide) ?_
      refine xgoto C (tgt := 23) dX2_isClosedBy_19 (by decide) ?_
      exact xzret C dX2_isClosedBy_23 (by first | rfl | exact bI_nar _) (by simp [bI, clb, *]) (rfl)
set_option maxHeartbeats 4000000 in
set_option maxRecDepth 100000 in
theorem c_X2_kindsWithO (l : Launch) (G : va_G) (tc : Nat → ClassId) (a : Nat → Nat) (ko kc ki : Nat → Int32) (kr ku : Int32) (w : Int32) : kI l yX2_kindsWith (xw yX2_kindsWith cX2_kindsWith 5 (some .int)) 1 G tc [.ref (a 0), .ref (a 1), .int w] (wK tc a ko kc ki kr ku) (kw ko kc ko w) (wK tc a ko kc ki kr ku) := by
  refine kI_of [some (.ref (a 0)), some (.ref (a 1)), some (.int w), none, none] 2 (by decide) (Nat.le_of_ble_eq_true rfl) rfl ?_
  intro p e s m args below meth c A C
  have loop : ∀ (n k : Nat) (z : Int32), k + n = 6 → kwG ko kc ko w n k z = kw ko kc ko w → xAT p l e (xR 1 0 0) s m args below meth c (xQi below args s G A (kw ko kc ko w) (wK tc a ko kc ki kr ku)) G A 5 0 0 (wK tc a ko kc ki kr ku) [some (.ref (a 0)), some (.ref (a 1)), some (.int w), some (.int z), some (.int (nI k))] 5 [] := by
    intro n
    induction n with
    | zero =>
      intro k z hk hz
      have hk : k = 6 := hk
      subst hk
      refine xiload_4 C dX2_kindsWith_5 ?_
      refine xbipush C (6) dX2_kindsWith_7 (by decide) ?_
      refine xicmp_ge C (tgt := 49) dX2_kindsWith_9 (by decide) (fun h9 => ?_) (fun h9 => ?_)
      · skip
        refine xiload_3 C dX2_kindsWith_49 ?_
        exact xiret C dX2_kindsWith_50 (hz) (rfl)
      · skip
        exact absurd (Int32.le_refl _) h9
    | succ n ih =>
      intro k z hk hz
      have hk6 : k < 6 := by omega
      refine xiload_4 C dX2_kindsWith_5 ?_
      refine xbipush C (6) dX2_kindsWith_7 (by decide) ?_
      refine xicmp_ge C (tgt := 49) dX2_kindsWith_9 (by decide) (fun h9 => ?_) (fun h9 => ?_)
      · skip
        exact absurd h9 (nI_ge hk6 (by decide))
      · skip
        refine xiload_4 C dX2_kindsWith_12 ?_
        refine xaload_1 C dX2_kindsWith_14 ?_
        refine xialen C 1 dX2_kindsWith_15 rfl ?_
        refine xicmp_ge C (tgt := 49) dX2_kindsWith_16 (by decide) (fun h16 => ?_) (fun h16 => ?_)
        · skip
          exact absurd h16 (nI_ge hk6 (by decide))
        · skip
          refine xaload_1 C dX2_kindsWith_19 ?_
          refine xiload_4 C dX2_kindsWith_20 ?_
          refine xialdN C (k) 1 dX2_kindsWith_22 rfl (hk6) (rfl) (by decide) ?_
          refine xiload_2 C dX2_kindsWith_23 ?_
          refine xicmp_ne C (tgt := 43) dX2_kindsWith_24 (by decide) (fun h24 => ?_) (fun h24 => ?_)
          · skip
            refine xiinc_4 C (nI (k + 1)) dX2_kindsWith_43 (nI_1 k) rfl (by decide) ?_
            refine xgoto C (tgt := 5) dX2_kindsWith_46 (by decide) ?_
            exact ih (k + 1) _ (by omega) (by rw [← hz, kwG, if_neg (by simp [h24])])
          · skip
            refine xaload_0 C dX2_kindsWith_27 ?_
            refine xiload_4 C dX2_kindsWith_28 ?_
            refine xcallVi0 C m_X2_isComplete k_X2_28 (c_X2_isComplete l G tc a ko kc ki kr ku (nI k)) dX2_kindsWith_30 0 rfl [0, 1, 2, 3] rfl rfl rfl (by decide) rfl (Nat.le_of_ble_eq_true rfl) ⟨by decide, by decide⟩ ?_
            refine xif_eq C (tgt := 43) dX2_kindsWith_33 (by decide) (fun h33 => ?_) (fun h33 => ?_)
            · skip
              have h33 := bI0 h33
              refine xiinc_4 C (nI (k + 1)) dX2_kindsWith_43 (nI_1 k) rfl (by decide) ?_
              refine xgoto C (tgt := 5) dX2_kindsWith_46 (by decide) ?_
              exact ih (k + 1) _ (by omega) (by rw [← hz, kwG, if_neg (by simp [h33])])
            · skip
              have h33 := bI1 h33
              refine xiload_3 C dX2_kindsWith_36 ?_
              refine xiconst C (1) dX2_kindsWith_37 (by decide) ?_
              refine xiload_4 C dX2_kindsWith_38 ?_
              refine xishl C dX2_kindsWith_40 ?_
              refine xior C dX2_kindsWith_41 ?_
              refine xistore_3 C dX2_kindsWith_42 rfl (by decide) ?_
              refine xiinc_4 C (nI (k + 1)) dX2_kindsWith_43 (nI_1 k) rfl (by decide) ?_
              refine xgoto C (tgt := 5) dX2_kindsWith_46 (by decide) ?_
              exact ih (k + 1) _ (by omega) (by rw [← hz, kwG, if_pos (by simp [h24, h33])])
  refine xiconst C (0) dX2_kindsWith_0 (by decide) ?_
  refine xistore_3 C dX2_kindsWith_1 rfl (by decide) ?_
  refine xiconst C (0) dX2_kindsWith_2 (by decide) ?_
  refine xistore_4 C dX2_kindsWith_3 rfl (by decide) ?_
  exact loop 6 0 0 rfl rfl
set_option maxHeartbeats 4000000 in
set_option maxRecDepth 100000 in
theorem c_X2_kindsWithC (l : Launch) (G : va_G) (tc : Nat → ClassId) (a : Nat → Nat) (ko kc ki : Nat → Int32) (kr ku : Int32) (w : Int32) : kI l yX2_kindsWith (xw yX2_kindsWith cX2_kindsWith 5 (some .int)) 1 G tc [.ref (a 0), .ref (a 2), .int w] (wK tc a ko kc ki kr ku) (kw ko kc kc w) (wK tc a ko kc ki kr ku) := by
  refine kI_of [some (.ref (a 0)), some (.ref (a 2)), some (.int w), none, none] 2 (by decide) (Nat.le_of_ble_eq_true rfl) rfl ?_
  intro p e s m args below meth c A C
  have loop : ∀ (n k : Nat) (z : Int32), k + n = 6 → kwG ko kc kc w n k z = kw ko kc kc w → xAT p l e (xR 1 0 0) s m args below meth c (xQi below args s G A (kw ko kc kc w) (wK tc a ko kc ki kr ku)) G A 5 0 0 (wK tc a ko kc ki kr ku) [some (.ref (a 0)), some (.ref (a 2)), some (.int w), some (.int z), some (.int (nI k))] 5 [] := by
    intro n
    induction n with
    | zero =>
      intro k z hk hz
      have hk : k = 6 := hk
      subst hk
      refine xiload_4 C dX2_kindsWith_5 ?_
      refine xbipush C (6) dX2_kindsWith_7 (by decide) ?_
      refine xicmp_ge C (tgt := 49) dX2_kindsWith_9 (by decide) (fun h9 => ?_) (fun h9 => ?_)
      · skip
        refine xiload_3 C dX2_kindsWith_49 ?_
        exact xiret C dX2_kindsWith_50 (hz) (rfl)
      · skip
        exact absurd (Int32.le_refl _) h9
    | succ n ih =>
      intro k z hk hz
      have hk6 : k < 6 := by omega
      refine xiload_4 C dX2_kindsWith_5 ?_
      refine xbipush C (6) dX2_kindsWith_7 (by decide) ?_
      refine xicmp_ge C (tgt := 49) dX2_kindsWith_9 (by decide) (fun h9 => ?_) (fun h9 => ?_)
      · skip
        exact absurd h9 (nI_ge hk6 (by decide))
      · skip
        refine xiload_4 C dX2_kindsWith_12 ?_
        refine xaload_1 C dX2_kindsWith_14 ?_
        refine xialen C 2 dX2_kindsWith_15 rfl ?_
        refine xicmp_ge C (tgt := 49) dX2_kindsWith_16 (by decide) (fun h16 => ?_) (fun h16 => ?_)
        · skip
          exact absurd h16 (nI_ge hk6 (by decide))
        · skip
          refine xaload_1 C dX2_kindsWith_19 ?_
          refine xiload_4 C dX2_kindsWith_20 ?_
          refine xialdN C (k) 2 dX2_kindsWith_22 rfl (hk6) (rfl) (by decide) ?_
          refine xiload_2 C dX2_kindsWith_23 ?_
          refine xicmp_ne C (tgt := 43) dX2_kindsWith_24 (by decide) (fun h24 => ?_) (fun h24 => ?_)
          · skip
            refine xiinc_4 C (nI (k + 1)) dX2_kindsWith_43 (nI_1 k) rfl (by decide) ?_
            refine xgoto C (tgt := 5) dX2_kindsWith_46 (by decide) ?_
            exact ih (k + 1) _ (by omega) (by rw [← hz, kwG, if_neg (by simp [h24])])
          · skip
            refine xaload_0 C dX2_kindsWith_27 ?_
            refine xiload_4 C dX2_kindsWith_28 ?_
            refine xcallVi0 C m_X2_isComplete k_X2_28 (c_X2_isComplete l G tc a ko kc ki kr ku (nI k)) dX2_kindsWith_30 0 rfl [0, 1, 2, 3] rfl rfl rfl (by decide) rfl (Nat.le_of_ble_eq_true rfl) ⟨by decide, by decide⟩ ?_
            refine xif_eq C (tgt := 43) dX2_kindsWith_33 (by decide) (fun h33 => ?_) (fun h33 => ?_)
            · skip
              have h33 := bI0 h33
              refine xiinc_4 C (nI (k + 1)) dX2_kindsWith_43 (nI_1 k) rfl (by decide) ?_
              refine xgoto C (tgt := 5) dX2_kindsWith_46 (by decide) ?_
              exact ih (k + 1) _ (by omega) (by rw [← hz, kwG, if_neg (by simp [h33])])
            · skip
              have h33 := bI1 h33
              refine xiload_3 C dX2_kindsWith_36 ?_
              refine xiconst C (1) dX2_kindsWith_37 (by decide) ?_
              refine xiload_4 C dX2_kindsWith_38 ?_
              refine xishl C dX2_kindsWith_40 ?_
              refine xior C dX2_kindsWith_41 ?_
              refine xistore_3 C dX2_kindsWith_42 rfl (by decide) ?_
              refine xiinc_4 C (nI (k + 1)) dX2_kindsWith_43 (nI_1 k) rfl (by decide) ?_
              refine xgoto C (tgt := 5) dX2_kindsWith_46 (by decide) ?_
              exact ih (k + 1) _ (by omega) (by rw [← hz, kwG, if_pos (by simp [h24, h33])])
  refine xiconst C (0) dX2_kindsWith_0 (by decide) ?_
  refine xistore_3 C dX2_kindsWith_1 rfl (by decide) ?_
  refine xiconst C (0) dX2_kindsWith_2 (by decide) ?_
  refine xistore_4 C dX2_kindsWith_3 rfl (by decide) ?_
  exact loop 6 0 0 rfl rfl
set_option maxHeartbeats 4000000 in
set_option maxRecDepth 100000 in
theorem c_X2_openedBy (l : Launch) (G : va_G) (tc : Nat → ClassId) (a : Nat → Nat) (ko kc ki : Nat → Int32) (kr ku : Int32) (w : Int32) : kI l yX2_openedBy (xw yX2_openedBy cX2_openedBy 2 (some .int)) 2 G tc [.ref (a 0), .int w] (wK tc a ko kc ki kr ku) (kw ko kc ko w) (wK tc a ko kc ki kr ku) := by
  refine kI_of [some (.ref (a 0)), some (.int w)] 0 (by decide) (Nat.le_of_ble_eq_true rfl) rfl ?_
  intro p e s m args below meth c A C
  refine xaload_0 C dX2_openedBy_0 ?_
  refine xaload_0 C dX2_openedBy_1 ?_
  refine xget C 0 f_X2_9 dX2_openedBy_2 rfl rfl ?_
  refine xiload_1 C dX2_openedBy_5 ?_
  refine xcallVi0 C m_X2_kindsWith k_X2_32 (c_X2_kindsWithO l G tc a ko kc ki kr ku w) dX2_openedBy_6 0 rfl [0, 1, 2, 3] rfl rfl rfl (by decide) rfl (Nat.le_of_ble_eq_true rfl) ⟨by decide, by decide⟩ ?_
  exact xiret C dX2_openedBy_9 (by first | rfl | (simp [*]; done)) (rfl)
set_option maxHeartbeats 4000000 in
set_option maxRecDepth 100000 in
theorem c_X2_closedBy (l : Launch) (G : va_G) (tc : Nat → ClassId) (a : Nat → Nat) (ko kc ki : Nat → Int32) (kr ku : Int32) (w : Int32) : kI l yX2_closedBy (xw yX2_closedBy cX2_closedBy 2 (some .int)) 2 G tc [.ref (a 0), .int w] (wK tc a ko kc ki kr ku) (kw ko kc kc w) (wK tc a ko kc ki kr ku) := by
  refine kI_of [some (.ref (a 0)), some (.int w)] 0 (by decide) (Nat.le_of_ble_eq_true rfl) rfl ?_
  intro p e s m args below meth c A C
  refine xaload_0 C dX2_closedBy_0 ?_
  refine xaload_0 C dX2_closedBy_1 ?_
  refine xget C 0 f_X2_15 dX2_closedBy_2 rfl rfl ?_
  refine xiload_1 C dX2_closedBy_5 ?_
  refine xcallVi0 C m_X2_kindsWith k_X2_32 (c_X2_kindsWithC l G tc a ko kc ki kr ku w) dX2_closedBy_6 0 rfl [0, 1, 2, 3] rfl rfl rfl (by decide) rfl (Nat.le_of_ble_eq_true rfl) ⟨by decide, by decide⟩ ?_
  exact xiret C dX2_closedBy_9 (by first | rfl | (simp [*]; done)) (rfl)
set_option maxHeartbeats 4000000 in
set_option maxRecDepth 100000 in
theorem c_X2_allowedIn (l : Launch) (G : va_G) (tc : Nat → ClassId) (a : Nat → Nat) (ko kc ki : Nat → Int32) (kr ku : Int32) (x : Int32) : kI l yX2_allowedIn (xw yX2_allowedIn cX2_allowedIn 2 (some .int)) 1 G tc [.ref (a 0), .int x] (wK tc a ko kc ki kr ku) (alw ki kr ku x) (wK tc a ko kc ki kr ku) := by
  refine kI_of [some (.ref (a 0)), some (.int x)] 0 (by decide) (Nat.le_of_ble_eq_true rfl) rfl ?_
  intro p e s m args below meth c A C
  refine xiload_1 C dX2_allowedIn_0 ?_
  refine xbipush C (6) dX2_allowedIn_1 (by decide) ?_
  refine xicmp_ne C (tgt := 11) dX2_allowedIn_3 (by decide) (fun h3 => ?_) (fun h3 => ?_)
  · skip
    refine xiload_1 C dX2_allowedIn_11 ?_
    refine xif_lt C (tgt := 32) dX2_allowedIn_12 (by decide) (fun h12 => ?_) (fun h12 => ?_)
    · skip
      refine xiconst C (0) dX2_allowedIn_32 (by decide) ?_
      exact xiret C dX2_allowedIn_33 (by simp [alw, *]) (rfl)
    · skip
      refine xiload_1 C dX2_allowedIn_15 ?_
      refine xbipush C (6) dX2_allowedIn_16 (by decide) ?_
      refine xicmp_ge C (tgt := 32) dX2_allowedIn_18 (by decide) (fun h18 => ?_) (fun h18 => ?_)
      · skip
        refine xiconst C (0) dX2_allowedIn_32 (by decide) ?_
        exact xiret C dX2_allowedIn_33 (by simp [alw, *]) (rfl)
      · skip
        refine xaload_0 C dX2_allowedIn_21 ?_
        refine xget C 0 f_X2_21 dX2_allowedIn_22 rfl rfl ?_
        refine xiload_1 C dX2_allowedIn_25 ?_
        refine xcallNi0 C m_X5_holdsKind C.E.2.2.1 (c_X5_holdsKind l G tc kr x) dX2_allowedIn_26 ([] : List Nat) rfl rfl rfl (by decide) rfl (Nat.le_of_ble_eq_true rfl) ⟨by decide, by decide⟩ ?_
        refine xif_eq C (tgt := 34) dX2_allowedIn_29 (by decide) (fun h29 => ?_) (fun h29 => ?_)
        · skip
          have h29 := bI0 h29
          refine xaload_0 C dX2_allowedIn_34 ?_
          refine xget C 0 f_X2_18 dX2_allowedIn_35 rfl rfl ?_
          refine xiload_1 C dX2_allowedIn_38 ?_
          refine xiald C 3 dX2_allowedIn_39 rfl (in6 h12 h18) ?_
          exact xiret C dX2_allowedIn_40 (by simp [alw, *]) (rfl)
        · skip
          have h29 := bI1 h29
          refine xiconst C (0) dX2_allowedIn_32 (by decide) ?_
          exact xiret C dX2_allowedIn_33 (by simp [alw, *]) (rfl)
  · skip
    refine xaload_0 C dX2_allowedIn_6 ?_
    refine xget C 0 f_X2_25 dX2_allowedIn_7 rfl rfl ?_
    exact xiret C dX2_allowedIn_10 (by simp [alw, *]) (rfl)
