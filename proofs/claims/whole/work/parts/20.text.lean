set_option maxHeartbeats 4000000 in
set_option maxRecDepth 100000 in
theorem c_X4_hasPlace (l : Launch) (G : va_G) (tc : Nat → ClassId) (a : Nat → Nat) (b : Nat → Int32) (n : Nat) (ec : Int32) (x : Int32) : kI l yX4_hasPlace (xw yX4_hasPlace cX4_hasPlace 2 (some .boolean)) 0 G tc [.ref (a 0), .int x] (wT tc a (b) (n) ec) (bI (hasP n x)) (wT tc a (b) (n) ec) := by
  refine kI_of [some (.ref (a 0)), some (.int x)] 0 (by decide) (Nat.le_of_ble_eq_true rfl) rfl ?_
  intro p e s m args below meth c A C
  refine xiload_1 C dX4_hasPlace_0 ?_
  refine xif_lt C (tgt := 16) dX4_hasPlace_1 (by decide) (fun h1 => ?_) (fun h1 => ?_)
  · skip
    refine xiconst C (0) dX4_hasPlace_16 (by decide) ?_
    exact xzret C dX4_hasPlace_17 (by first | rfl | exact bI_nar _) (by simp [bI, hasP, *]) (rfl)
  · skip
    refine xiload_1 C dX4_hasPlace_4 ?_
    refine xaload_0 C dX4_hasPlace_5 ?_
    refine xget C 0 f_X4_15 dX4_hasPlace_6 rfl rfl ?_
    refine xicmp_ge C (tgt := 16) dX4_hasPlace_9 (by decide) (fun h9 => ?_) (fun h9 => ?_)
    · skip
      refine xiconst C (0) dX4_hasPlace_16 (by decide) ?_
      exact xzret C dX4_hasPlace_17 (by first | rfl | exact bI_nar _) (by simp [bI, hasP, *]) (rfl)
    · skip
      refine xiconst C (1) dX4_hasPlace_12 (by decide) ?_
      refine xgoto C (tgt := 17) dX4_hasPlace_13 (by decide) ?_
      exact xzret C dX4_hasPlace_17 (by first | rfl | exact bI_nar _) (by simp [bI, hasP, *]) (rfl)
set_option maxHeartbeats 4000000 in
set_option maxRecDepth 100000 in
theorem c_X4_isEscape (l : Launch) (G : va_G) (tc : Nat → ClassId) (a : Nat → Nat) (b : Nat → Int32) (n : Nat) (ec : Int32) (hn : n ≤ 48) (x : Int32) : kI l yX4_isEscape (xw yX4_isEscape cX4_isEscape 2 (some .boolean)) 1 G tc [.ref (a 0), .int x] (wT tc a (b) (n) ec) (bI (isEs b n ec x)) (wT tc a (b) (n) ec) := by
  refine kI_of [some (.ref (a 0)), some (.int x)] 0 (by decide) (Nat.le_of_ble_eq_true rfl) rfl ?_
  intro p e s m args below meth c A C
  refine xaload_0 C dX4_isEscape_0 ?_
  refine xiload_1 C dX4_isEscape_1 ?_
  refine xcallVi0 C m_X4_hasPlace k_X4_22 (c_X4_hasPlace l G tc a b n ec x) dX4_isEscape_2 0 rfl [0, 1] rfl rfl rfl (by decide) rfl (Nat.le_of_ble_eq_true rfl) ⟨by decide, by decide⟩ ?_
  refine xif_eq C (tgt := 25) dX4_isEscape_5 (by decide) (fun h5 => ?_) (fun h5 => ?_)
  · skip
    have h5 := bI0 h5
    refine xiconst C (0) dX4_isEscape_25 (by decide) ?_
    exact xzret C dX4_isEscape_26 (by first | rfl | exact bI_nar _) (by simp [bI, isEs, *]) (rfl)
  · skip
    have h5 := bI1 h5
    refine xaload_0 C dX4_isEscape_8 ?_
    refine xget C 0 f_X4_9 dX4_isEscape_9 rfl rfl ?_
    refine xiload_1 C dX4_isEscape_12 ?_
    refine xiald C 1 dX4_isEscape_13 rfl (hasP_in h5 hn) ?_
    refine xaload_0 C dX4_isEscape_14 ?_
    refine xget C 0 f_X4_19 dX4_isEscape_15 rfl rfl ?_
    refine xicmp_ne C (tgt := 25) dX4_isEscape_18 (by decide) (fun h18 => ?_) (fun h18 => ?_)
    · skip
      refine xiconst C (0) dX4_isEscape_25 (by decide) ?_
      exact xzret C dX4_isEscape_26 (by first | rfl | exact bI_nar _) (by simp [bI, isEs, *]) (rfl)
    · skip
      refine xiconst C (1) dX4_isEscape_21 (by decide) ?_
      refine xgoto C (tgt := 26) dX4_isEscape_22 (by decide) ?_
      exact xzret C dX4_isEscape_26 (by first | rfl | exact bI_nar _) (by simp [bI, isEs, *]) (rfl)
set_option maxHeartbeats 4000000 in
set_option maxRecDepth 100000 in
theorem c_X4_append (l : Launch) (G : va_G) (tc : Nat → ClassId) (a : Nat → Nat) (b : Nat → Int32) (n : Nat) (ec : Int32) (hn : n < 48) (x : Int32) : kV l yX4_append (xw yX4_append cX4_append 2 none) 0 G tc [.ref (a 0), .int x] (wT tc a (b) (n) ec) (wT tc a (upd b n x) (n + 1) ec) := by
  refine kV_of [some (.ref (a 0)), some (.int x)] 0 (by decide) (Nat.le_of_ble_eq_true rfl) rfl ?_
  intro p e s m args below meth c A C
  refine xaload_0 C dX4_append_0 ?_
  refine xget C 0 f_X4_15 dX4_append_1 rfl rfl ?_
  refine xbipush C (48) dX4_append_4 (by decide) ?_
  refine xicmp_ge C (tgt := 29) dX4_append_6 (by decide) (fun h6 => ?_) (fun h6 => ?_)
  · skip
    exact absurd h6 (by rw [show (48 : Int32) = nI 48 from rfl]; exact nI_ge hn (by decide))
  · skip
    refine xaload_0 C dX4_append_9 ?_
    refine xget C 0 f_X4_9 dX4_append_10 rfl rfl ?_
    refine xaload_0 C dX4_append_13 ?_
    refine xget C 0 f_X4_15 dX4_append_14 rfl rfl ?_
    refine xiload_1 C dX4_append_17 ?_
    refine xiastN C (n) 1 (wT tc a (upd b n x) (n) ec) dX4_append_18 rfl (hn) (rfl) (by decide) rfl ?_
    refine xaload_0 C dX4_append_19 ?_
    refine xdup C dX4_append_20 rfl ?_
    refine xget C 0 f_X4_15 dX4_append_21 rfl rfl ?_
    refine xiconst C (1) dX4_append_24 (by decide) ?_
    refine xiadd C dX4_append_25 ?_
    refine xtop (w := .int (nI (n + 1))) (congrArg Value.int (nI_1 n)) ?_
    refine xput C 0 (wT tc a (upd b n x) (n + 1) ec) fw_X4_15 dX4_append_26 rfl (Nat.le_of_ble_eq_true rfl) rfl rfl rfl ?_
    exact xvret C dX4_append_29 (rfl)
set_option maxHeartbeats 4000000 in
set_option maxRecDepth 100000 in
theorem c_X4_wordAt (l : Launch) (G : va_G) (tc : Nat → ClassId) (a : Nat → Nat) (b : Nat → Int32) (n : Nat) (ec : Int32) (hn : n ≤ 48) (i q : Nat) (hi : i ≤ n) (hq : 1 ≤ q) (hq3 : q ≤ 3) : kI l yX4_wordAt (xw yX4_wordAt cX4_wordAt 5 (some .int)) 2 G tc [.ref (a 0), .int (nI i), .int (nI q)] (wT tc a (b) (n) ec) (wAt b n ec i q) (wT tc a (b) (n) ec) := by
  refine kI_of [some (.ref (a 0)), some (.int (nI i)), some (.int (nI q)), none, none] 2 (by decide) (Nat.le_of_ble_eq_true rfl) rfl ?_
  intro p e s m args below meth c A C
  have loop : ∀ (k j : Nat) (w : Int32), j + k = i + q → i + q ≤ n → wgo b ec k j w = wAt b n ec i q → xAT p l e (xR 2 0 0) s m args below meth c (xQi below args s G A (wAt b n ec i q) (wT tc a (b) (n) ec)) G A 5 0 0 (wT tc a (b) (n) ec) [some (.ref (a 0)), some (.int (nI i)), some (.int (nI q)), some (.int w), some (.int (nI j))] 26 [] := by
    intro k
    induction k with
    | zero =>
      intro j w hj hle hw
      have hj : j = i + q := hj
      refine xiload_4 C dX4_wordAt_26 ?_
      refine xiload_1 C dX4_wordAt_28 ?_
      refine xiload_2 C dX4_wordAt_29 ?_
      refine xiadd C dX4_wordAt_30 ?_
      refine xtop (w := .int (nI (i + q))) (congrArg Value.int (nI_add i q)) ?_
      refine xicmp_ge C (tgt := 64) dX4_wordAt_31 (by decide) (fun h31 => ?_) (fun h31 => ?_)
      · skip
        refine xiload_3 C dX4_wordAt_64 ?_
        exact xiret C dX4_wordAt_65 (hw) (rfl)
      · skip
        exact absurd (by rw [hj]; exact nI_le (Nat.le_refl _) (by omega)) h31
    | succ k ih =>
      intro j w hj hle hw
      have hjn : j < n := by omega
      have hmn : ¬ (nI (i + q)) ≤ nI j := nI_ge (by omega) (by omega)
      refine xiload_4 C dX4_wordAt_26 ?_
      refine xiload_1 C dX4_wordAt_28 ?_
      refine xiload_2 C dX4_wordAt_29 ?_
      refine xiadd C dX4_wordAt_30 ?_
      refine xtop (w := .int (nI (i + q))) (congrArg Value.int (nI_add i q)) ?_
      refine xicmp_ge C (tgt := 64) dX4_wordAt_31 (by decide) (fun h31 => ?_) (fun h31 => ?_)
      · skip
        exact absurd h31 hmn
      · skip
        refine xaload_0 C dX4_wordAt_34 ?_
        refine xiload_4 C dX4_wordAt_35 ?_
        refine xcallVi0 C m_X4_isEscape k_X4_26 (c_X4_isEscape l G tc a b n ec hn (nI j)) dX4_wordAt_37 0 rfl [0, 1] rfl rfl rfl (by decide) rfl (Nat.le_of_ble_eq_true rfl) ⟨by decide, by decide⟩ ?_
        rw [isEs_nI hjn hn]
        refine xif_eq C (tgt := 45) dX4_wordAt_40 (by decide) (fun h40 => ?_) (fun h40 => ?_)
        · skip
          have h40 := bI0 h40
          have h40 := of_decide_eq_false h40
          refine xiload_3 C dX4_wordAt_45 ?_
          refine xbipush C (8) dX4_wordAt_46 (by decide) ?_
          refine xishl C dX4_wordAt_48 ?_
          refine xaload_0 C dX4_wordAt_49 ?_
          refine xget C 0 f_X4_9 dX4_wordAt_50 rfl rfl ?_
          refine xiload_4 C dX4_wordAt_53 ?_
          refine xialdN C (j) 1 dX4_wordAt_55 rfl (by omega) (rfl) (by decide) ?_
          refine xior C dX4_wordAt_56 ?_
          refine xistore_3 C dX4_wordAt_57 rfl (by decide) ?_
          refine xiinc_4 C (nI (j + 1)) dX4_wordAt_58 (nI_1 j) rfl (by decide) ?_
          refine xgoto C (tgt := 26) dX4_wordAt_61 (by decide) ?_
          exact ih (j + 1) _ (by omega) hle (by rw [← hw, wgo, if_neg h40])
        · skip
          have h40 := bI1 h40
          have h40 := of_decide_eq_true h40
          refine xiconst C (0) dX4_wordAt_43 (by decide) ?_
          exact xiret C dX4_wordAt_44 (by rw [← hw, wgo, if_pos h40]) (rfl)
  refine xiload_1 C dX4_wordAt_0 ?_
  refine xif_lt C (tgt := 19) dX4_wordAt_1 (by decide) (fun h1 => ?_) (fun h1 => ?_)
  · skip
    exact absurd h1 (nI_pos (by omega))
  · skip
    refine xiload_2 C dX4_wordAt_4 ?_
    refine xiconst C (1) dX4_wordAt_5 (by decide) ?_
    refine xicmp_lt C (tgt := 19) dX4_wordAt_6 (by decide) (fun h6 => ?_) (fun h6 => ?_)
    · skip
      exact absurd h6 (by rw [show (1 : Int32) = nI 1 from rfl]; exact nI_nlt hq (by omega))
    · skip
      refine xiload_2 C dX4_wordAt_9 ?_
      refine xaload_0 C dX4_wordAt_10 ?_
      refine xget C 0 f_X4_15 dX4_wordAt_11 rfl rfl ?_
      refine xiload_1 C dX4_wordAt_14 ?_
      refine xisub C dX4_wordAt_15 ?_
      refine xtop (w := .int (nI (n - i))) (congrArg Value.int (pk_sub hi)) ?_
      refine xicmp_le C (tgt := 21) dX4_wordAt_16 (by decide) (fun h16 => ?_) (fun h16 => ?_)
      · skip
        have h16 := (nI_leI (by omega) (by omega)).mp h16
        refine xiconst C (0) dX4_wordAt_21 (by decide) ?_
        refine xistore_3 C dX4_wordAt_22 rfl (by decide) ?_
        refine xiload_1 C dX4_wordAt_23 ?_
        refine xistore_4 C dX4_wordAt_24 rfl (by decide) ?_
        exact loop q i 0 rfl (by omega) (by rw [wAt, if_pos h16])
      · skip
        have h16 := fun h => h16 ((nI_leI (by omega) (by omega)).mpr h)
        refine xiconst C (0) dX4_wordAt_19 (by decide) ?_
        exact xiret C dX4_wordAt_20 (by rw [wAt, if_neg h16]) (rfl)
