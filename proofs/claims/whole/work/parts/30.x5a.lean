set_option maxHeartbeats 4000000 in
set_option maxRecDepth 100000 in
theorem c_X5_needPlace (l : Launch) (hl9 : l.stackTraces = false) (G : va_G) (tc : Nat → ClassId) (a0 : Nat) (aT aK aI aM aB : Nat → Nat) (lt : Bool) (b : Nat → Int32) (n : Nat) (ec : Int32) (x : Int32) : tV l yX5_needPlace (xw yX5_needPlace cX5_needPlace 2 none) 1 G tc [.ref a0, .int x] (wO a0 aT aK aI aM aB lt ++ wT tc aT b n ec) 1 (thP n x) (wO a0 aT aK aI aM aB lt ++ wT tc aT b n ec) := by
  refine tV_of [some (.ref a0), some (.int x)] 0 (by decide) (Nat.le_of_ble_eq_true rfl) rfl ?_
  intro p e s m args below meth c A C hT
  refine xaload_0 C dX5_needPlace_0 ?_
  refine xget C 0 f_X5_10 dX5_needPlace_1 rfl rfl ?_
  refine xiload_1 C dX5_needPlace_4 ?_
  refine xcallVi0 C m_X4_hasPlace k_X5_214 (c_X4_hasPlace l G tc aT b n ec x) dX5_needPlace_5 1 rfl [1, 2] rfl rfl rfl (by decide) rfl (Nat.le_of_ble_eq_true rfl) ⟨by decide, by decide⟩ ?_
  refine xif_ne C (tgt := 21) dX5_needPlace_8 (by decide) (fun h8 => ?_) (fun h8 => ?_)
  · skip
    have h8 := bI1 h8
    exact xtvret C dX5_needPlace_21 (by decide) (by decide) (by simp [thP, *]) (rfl)
  · skip
    have h8 := bI0 h8
    exact xthrow C hl9 hT th_IO (List.mem_of_getElem? (i := 3) rfl) dX5_needPlace_11 dX5_needPlace_14 dX5_needPlace_15 dX5_needPlace_17 dX5_needPlace_20 (Nat.le_of_ble_eq_true rfl) ⟨by decide, by decide⟩ (by decide) (by decide) (by simp [thP, *]) (rfl)
set_option maxHeartbeats 4000000 in
set_option maxRecDepth 100000 in
theorem c_X5_needKind (l : Launch) (hl9 : l.stackTraces = false) (G : va_G) (tc : Nat → ClassId) (a0 : Nat) (aT aK aI aM aB : Nat → Nat) (lt : Bool) (x : Int32) : tV l yX5_needKind (xw yX5_needKind cX5_needKind 2 none) 0 G tc [.ref a0, .int x] (wO a0 aT aK aI aM aB lt) 1 (thK x) (wO a0 aT aK aI aM aB lt) := by
  refine tV_of [some (.ref a0), some (.int x)] 0 (by decide) (Nat.le_of_ble_eq_true rfl) rfl ?_
  intro p e s m args below meth c A C hT
  refine xiload_1 C dX5_needKind_0 ?_
  refine xif_lt C (tgt := 10) dX5_needKind_1 (by decide) (fun h1 => ?_) (fun h1 => ?_)
  · skip
    exact xthrow C hl9 hT th_IO (List.mem_of_getElem? (i := 6) rfl) dX5_needKind_10 dX5_needKind_13 dX5_needKind_14 dX5_needKind_16 dX5_needKind_19 (Nat.le_of_ble_eq_true rfl) ⟨by decide, by decide⟩ (by decide) (by decide) (by simp [thK, *]) (rfl)
  · skip
    refine xiload_1 C dX5_needKind_4 ?_
    refine xbipush C (6) dX5_needKind_5 (by decide) ?_
    refine xicmp_lt C (tgt := 20) dX5_needKind_7 (by decide) (fun h7 => ?_) (fun h7 => ?_)
    · skip
      exact xtvret C dX5_needKind_20 (by decide) (by decide) (by simp [thK, *]) (rfl)
    · skip
      exact xthrow C hl9 hT th_IO (List.mem_of_getElem? (i := 6) rfl) dX5_needKind_10 dX5_needKind_13 dX5_needKind_14 dX5_needKind_16 dX5_needKind_19 (Nat.le_of_ble_eq_true rfl) ⟨by decide, by decide⟩ (by decide) (by decide) (by simp [thK, *]) (rfl)
set_option maxHeartbeats 4000000 in
set_option maxRecDepth 100000 in
theorem c_X5_needReading (l : Launch) (hl9 : l.stackTraces = false) (G : va_G) (tc : Nat → ClassId) (a0 : Nat) (aT aK aI aM aB : Nat → Nat) (lt : Bool) (i : IS) : tV l yX5_needReading (xw yX5_needReading cX5_needReading 1 none) 0 G tc [.ref a0] (wO a0 aT aK aI aM aB lt ++ wIs tc aI (i)) 1 (thR (iR i)) (wO a0 aT aK aI aM aB lt ++ wIs tc aI (i)) := by
  refine tV_of [some (.ref a0)] 0 (by decide) (Nat.le_of_ble_eq_true rfl) rfl ?_
  intro p e s m args below meth c A C hT
  refine xaload_0 C dX5_needReading_0 ?_
  refine xget C 0 f_X5_26 dX5_needReading_1 rfl rfl ?_
  refine xget C 1 f_X5_155 dX5_needReading_4 rfl rfl ?_
  refine xif_ne C (tgt := 20) dX5_needReading_7 (by decide) (fun h7 => ?_) (fun h7 => ?_)
  · skip
    have h7 := bI1 h7
    exact xtvret C dX5_needReading_20 (by decide) (by decide) (by simp [thR, *]) (rfl)
  · skip
    have h7 := bI0 h7
    exact xthrow C hl9 hT th_IS (List.mem_of_getElem? (i := 11) rfl) dX5_needReading_10 dX5_needReading_13 dX5_needReading_14 dX5_needReading_16 dX5_needReading_19 (Nat.le_of_ble_eq_true rfl) ⟨by decide, by decide⟩ (by decide) (by decide) (by simp [thR, *]) (rfl)
set_option maxHeartbeats 4000000 in
set_option maxRecDepth 100000 in
theorem c_X5_needIsland (l : Launch) (hl9 : l.stackTraces = false) (G : va_G) (tc : Nat → ClassId) (a0 : Nat) (aT aK aI aM aB : Nat → Nat) (lt : Bool) (i : IS) (x : Int32) : tV l yX5_needIsland (xw yX5_needIsland cX5_needIsland 2 none) 1 G tc [.ref a0, .int x] (wO a0 aT aK aI aM aB lt ++ wIs tc aI (i)) 2 (thI (iR i) (iM i) x) (wO a0 aT aK aI aM aB lt ++ wIs tc aI (i)) := by
  refine tV_of [some (.ref a0), some (.int x)] 0 (by decide) (Nat.le_of_ble_eq_true rfl) rfl ?_
  intro p e s m args below meth c A C hT
  refine xaload_0 C dX5_needIsland_0 ?_
  refine xprop C hT m_X5_needReading k_X5_167 (c_X5_needReading l hl9 G tc a0 aT aK aI aM aB lt i) dX5_needIsland_1 0 rfl [0, 1, 2, 3, 4, 5, 6, 7, 8] (wO a0 aT aK aI aM aB lt ++ wIs tc aI (i)) rfl rfl rfl rfl rfl (by decide) rfl (Nat.le_of_ble_eq_true rfl) ⟨by decide, by decide⟩ (by decide) (by decide) (fun E hE => by rw [thI, hE]; rfl) rfl ?_
  intro hn1
  refine xiload_1 C dX5_needIsland_4 ?_
  refine xif_lt C (tgt := 19) dX5_needIsland_5 (by decide) (fun h5 => ?_) (fun h5 => ?_)
  · skip
    exact xthrow C hl9 hT th_IO (List.mem_of_getElem? (i := 12) rfl) dX5_needIsland_19 dX5_needIsland_22 dX5_needIsland_23 dX5_needIsland_25 dX5_needIsland_28 (Nat.le_of_ble_eq_true rfl) ⟨by decide, by decide⟩ (by decide) (by decide) (by simp [thI, *]) (rfl)
  · skip
    refine xiload_1 C dX5_needIsland_8 ?_
    refine xaload_0 C dX5_needIsland_9 ?_
    refine xget C 0 f_X5_26 dX5_needIsland_10 rfl rfl ?_
    refine xget C 1 f_X5_139 dX5_needIsland_13 rfl rfl ?_
    refine xicmp_lt C (tgt := 29) dX5_needIsland_16 (by decide) (fun h16 => ?_) (fun h16 => ?_)
    · skip
      exact xtvret C dX5_needIsland_29 (by decide) (by decide) (by simp [thI, *]) (rfl)
    · skip
      exact xthrow C hl9 hT th_IO (List.mem_of_getElem? (i := 12) rfl) dX5_needIsland_19 dX5_needIsland_22 dX5_needIsland_23 dX5_needIsland_25 dX5_needIsland_28 (Nat.le_of_ble_eq_true rfl) ⟨by decide, by decide⟩ (by decide) (by decide) (by simp [thI, *]) (rfl)
set_option maxHeartbeats 4000000 in
set_option maxRecDepth 100000 in
theorem c_X5_kind (l : Launch) (hl9 : l.stackTraces = false) (G : va_G) (tc : Nat → ClassId) (a0 : Nat) (aT aK aI aM aB : Nat → Nat) (lt : Bool) (i : IS) (hm : iM i ≤ 48) (x : Int32) : tI l yX5_kind (xw yX5_kind cX5_kind 2 (some .int)) 2 G tc [.ref a0, .int x] (wO a0 aT aK aI aM aB lt ++ wIs tc aI (i)) 2 (thI (iR i) (iM i) x) (iK i x.toNatClampNeg) (wO a0 aT aK aI aM aB lt ++ wIs tc aI (i)) := by
  refine tI_of [some (.ref a0), some (.int x)] 0 (by decide) (Nat.le_of_ble_eq_true rfl) rfl ?_
  intro p e s m args below meth c A C hT
  refine xaload_0 C dX5_kind_0 ?_
  refine xiload_1 C dX5_kind_1 ?_
  refine xprop C hT m_X5_needIsland k_X5_170 (c_X5_needIsland l hl9 G tc a0 aT aK aI aM aB lt i x) dX5_kind_2 0 rfl [0, 1, 2, 3, 4, 5, 6, 7, 8] (wO a0 aT aK aI aM aB lt ++ wIs tc aI (i)) rfl rfl rfl rfl rfl (by decide) rfl (Nat.le_of_ble_eq_true rfl) ⟨by decide, by decide⟩ (by decide) (by decide) (fun E hE => hE) rfl ?_
  intro hn2
  refine xaload_0 C dX5_kind_5 ?_
  refine xget C 0 f_X5_26 dX5_kind_6 rfl rfl ?_
  refine xget C 1 f_X5_173 dX5_kind_9 rfl rfl ?_
  refine xiload_1 C dX5_kind_12 ?_
  refine xiald C 2 dX5_kind_13 rfl (thI_n hn2 hm) ?_
  exact xtiret C dX5_kind_14 (by decide) (by decide) (rfl) (hn2) (rfl)
set_option maxHeartbeats 4000000 in
set_option maxRecDepth 100000 in
theorem c_X5_start (l : Launch) (hl9 : l.stackTraces = false) (G : va_G) (tc : Nat → ClassId) (a0 : Nat) (aT aK aI aM aB : Nat → Nat) (lt : Bool) (i : IS) (hm : iM i ≤ 48) (x : Int32) : tI l yX5_start (xw yX5_start cX5_start 2 (some .int)) 2 G tc [.ref a0, .int x] (wO a0 aT aK aI aM aB lt ++ wIs tc aI (i)) 2 (thI (iR i) (iM i) x) (iA i x.toNatClampNeg) (wO a0 aT aK aI aM aB lt ++ wIs tc aI (i)) := by
  refine tI_of [some (.ref a0), some (.int x)] 0 (by decide) (Nat.le_of_ble_eq_true rfl) rfl ?_
  intro p e s m args below meth c A C hT
  refine xaload_0 C dX5_start_0 ?_
  refine xiload_1 C dX5_start_1 ?_
  refine xprop C hT m_X5_needIsland k_X5_170 (c_X5_needIsland l hl9 G tc a0 aT aK aI aM aB lt i x) dX5_start_2 0 rfl [0, 1, 2, 3, 4, 5, 6, 7, 8] (wO a0 aT aK aI aM aB lt ++ wIs tc aI (i)) rfl rfl rfl rfl rfl (by decide) rfl (Nat.le_of_ble_eq_true rfl) ⟨by decide, by decide⟩ (by decide) (by decide) (fun E hE => hE) rfl ?_
  intro hn2
  refine xaload_0 C dX5_start_5 ?_
  refine xget C 0 f_X5_26 dX5_start_6 rfl rfl ?_
  refine xget C 1 f_X5_175 dX5_start_9 rfl rfl ?_
  refine xiload_1 C dX5_start_12 ?_
  refine xiald C 3 dX5_start_13 rfl (thI_n hn2 hm) ?_
  exact xtiret C dX5_start_14 (by decide) (by decide) (rfl) (hn2) (rfl)
set_option maxHeartbeats 4000000 in
set_option maxRecDepth 100000 in
theorem c_X5_end (l : Launch) (hl9 : l.stackTraces = false) (G : va_G) (tc : Nat → ClassId) (a0 : Nat) (aT aK aI aM aB : Nat → Nat) (lt : Bool) (i : IS) (hm : iM i ≤ 48) (x : Int32) : tI l yX5_end (xw yX5_end cX5_end 2 (some .int)) 2 G tc [.ref a0, .int x] (wO a0 aT aK aI aM aB lt ++ wIs tc aI (i)) 2 (thI (iR i) (iM i) x) (iE i x.toNatClampNeg) (wO a0 aT aK aI aM aB lt ++ wIs tc aI (i)) := by
  refine tI_of [some (.ref a0), some (.int x)] 0 (by decide) (Nat.le_of_ble_eq_true rfl) rfl ?_
  intro p e s m args below meth c A C hT
  refine xaload_0 C dX5_end_0 ?_
  refine xiload_1 C dX5_end_1 ?_
  refine xprop C hT m_X5_needIsland k_X5_170 (c_X5_needIsland l hl9 G tc a0 aT aK aI aM aB lt i x) dX5_end_2 0 rfl [0, 1, 2, 3, 4, 5, 6, 7, 8] (wO a0 aT aK aI aM aB lt ++ wIs tc aI (i)) rfl rfl rfl rfl rfl (by decide) rfl (Nat.le_of_ble_eq_true rfl) ⟨by decide, by decide⟩ (by decide) (by decide) (fun E hE => hE) rfl ?_
  intro hn2
  refine xaload_0 C dX5_end_5 ?_
  refine xget C 0 f_X5_26 dX5_end_6 rfl rfl ?_
  refine xget C 1 f_X5_178 dX5_end_9 rfl rfl ?_
  refine xiload_1 C dX5_end_12 ?_
  refine xiald C 4 dX5_end_13 rfl (thI_n hn2 hm) ?_
  exact xtiret C dX5_end_14 (by decide) (by decide) (rfl) (hn2) (rfl)
set_option maxHeartbeats 4000000 in
set_option maxRecDepth 100000 in
theorem c_X5_state (l : Launch) (hl9 : l.stackTraces = false) (G : va_G) (tc : Nat → ClassId) (a0 : Nat) (aT aK aI aM aB : Nat → Nat) (lt : Bool) (i : IS) (hm : iM i ≤ 48) (x : Int32) : tI l yX5_state (xw yX5_state cX5_state 2 (some .int)) 2 G tc [.ref a0, .int x] (wO a0 aT aK aI aM aB lt ++ wIs tc aI (i)) 2 (thI (iR i) (iM i) x) (iT i x.toNatClampNeg) (wO a0 aT aK aI aM aB lt ++ wIs tc aI (i)) := by
  refine tI_of [some (.ref a0), some (.int x)] 0 (by decide) (Nat.le_of_ble_eq_true rfl) rfl ?_
  intro p e s m args below meth c A C hT
  refine xaload_0 C dX5_state_0 ?_
  refine xiload_1 C dX5_state_1 ?_
  refine xprop C hT m_X5_needIsland k_X5_170 (c_X5_needIsland l hl9 G tc a0 aT aK aI aM aB lt i x) dX5_state_2 0 rfl [0, 1, 2, 3, 4, 5, 6, 7, 8] (wO a0 aT aK aI aM aB lt ++ wIs tc aI (i)) rfl rfl rfl rfl rfl (by decide) rfl (Nat.le_of_ble_eq_true rfl) ⟨by decide, by decide⟩ (by decide) (by decide) (fun E hE => hE) rfl ?_
  intro hn2
  refine xaload_0 C dX5_state_5 ?_
  refine xget C 0 f_X5_26 dX5_state_6 rfl rfl ?_
  refine xget C 1 f_X5_181 dX5_state_9 rfl rfl ?_
  refine xiload_1 C dX5_state_12 ?_
  refine xiald C 5 dX5_state_13 rfl (thI_n hn2 hm) ?_
  exact xtiret C dX5_state_14 (by decide) (by decide) (rfl) (hn2) (rfl)
set_option maxHeartbeats 4000000 in
set_option maxRecDepth 100000 in
theorem c_X5_parent (l : Launch) (hl9 : l.stackTraces = false) (G : va_G) (tc : Nat → ClassId) (a0 : Nat) (aT aK aI aM aB : Nat → Nat) (lt : Bool) (i : IS) (hm : iM i ≤ 48) (x : Int32) : tI l yX5_parent (xw yX5_parent cX5_parent 2 (some .int)) 2 G tc [.ref a0, .int x] (wO a0 aT aK aI aM aB lt ++ wIs tc aI (i)) 2 (thI (iR i) (iM i) x) (iP i x.toNatClampNeg) (wO a0 aT aK aI aM aB lt ++ wIs tc aI (i)) := by
  refine tI_of [some (.ref a0), some (.int x)] 0 (by decide) (Nat.le_of_ble_eq_true rfl) rfl ?_
  intro p e s m args below meth c A C hT
  refine xaload_0 C dX5_parent_0 ?_
  refine xiload_1 C dX5_parent_1 ?_
  refine xprop C hT m_X5_needIsland k_X5_170 (c_X5_needIsland l hl9 G tc a0 aT aK aI aM aB lt i x) dX5_parent_2 0 rfl [0, 1, 2, 3, 4, 5, 6, 7, 8] (wO a0 aT aK aI aM aB lt ++ wIs tc aI (i)) rfl rfl rfl rfl rfl (by decide) rfl (Nat.le_of_ble_eq_true rfl) ⟨by decide, by decide⟩ (by decide) (by decide) (fun E hE => hE) rfl ?_
  intro hn2
  refine xaload_0 C dX5_parent_5 ?_
  refine xget C 0 f_X5_26 dX5_parent_6 rfl rfl ?_
  refine xget C 1 f_X5_184 dX5_parent_9 rfl rfl ?_
  refine xiload_1 C dX5_parent_12 ?_
  refine xiald C 6 dX5_parent_13 rfl (thI_n hn2 hm) ?_
  exact xtiret C dX5_parent_14 (by decide) (by decide) (rfl) (hn2) (rfl)
set_option maxHeartbeats 4000000 in
set_option maxRecDepth 100000 in
theorem c_X5_depth (l : Launch) (hl9 : l.stackTraces = false) (G : va_G) (tc : Nat → ClassId) (a0 : Nat) (aT aK aI aM aB : Nat → Nat) (lt : Bool) (i : IS) (hm : iM i ≤ 48) (x : Int32) : tI l yX5_depth (xw yX5_depth cX5_depth 2 (some .int)) 2 G tc [.ref a0, .int x] (wO a0 aT aK aI aM aB lt ++ wIs tc aI (i)) 2 (thI (iR i) (iM i) x) (iD i x.toNatClampNeg) (wO a0 aT aK aI aM aB lt ++ wIs tc aI (i)) := by
  refine tI_of [some (.ref a0), some (.int x)] 0 (by decide) (Nat.le_of_ble_eq_true rfl) rfl ?_
  intro p e s m args below meth c A C hT
  refine xaload_0 C dX5_depth_0 ?_
  refine xiload_1 C dX5_depth_1 ?_
  refine xprop C hT m_X5_needIsland k_X5_170 (c_X5_needIsland l hl9 G tc a0 aT aK aI aM aB lt i x) dX5_depth_2 0 rfl [0, 1, 2, 3, 4, 5, 6, 7, 8] (wO a0 aT aK aI aM aB lt ++ wIs tc aI (i)) rfl rfl rfl rfl rfl (by decide) rfl (Nat.le_of_ble_eq_true rfl) ⟨by decide, by decide⟩ (by decide) (by decide) (fun E hE => hE) rfl ?_
  intro hn2
  refine xaload_0 C dX5_depth_5 ?_
  refine xget C 0 f_X5_26 dX5_depth_6 rfl rfl ?_
  refine xget C 1 f_X5_187 dX5_depth_9 rfl rfl ?_
  refine xiload_1 C dX5_depth_12 ?_
  refine xiald C 7 dX5_depth_13 rfl (thI_n hn2 hm) ?_
  exact xtiret C dX5_depth_14 (by decide) (by decide) (rfl) (hn2) (rfl)
set_option maxHeartbeats 4000000 in
set_option maxRecDepth 100000 in
theorem c_X5_islandCount (l : Launch) (hl9 : l.stackTraces = false) (G : va_G) (tc : Nat → ClassId) (a0 : Nat) (aT aK aI aM aB : Nat → Nat) (lt : Bool) (i : IS) : tI l yX5_islandCount (xw yX5_islandCount cX5_islandCount 1 (some .int)) 1 G tc [.ref a0] (wO a0 aT aK aI aM aB lt ++ wIs tc aI (i)) 1 (thR (iR i)) (nI (iM i)) (wO a0 aT aK aI aM aB lt ++ wIs tc aI (i)) := by
  refine tI_of [some (.ref a0)] 0 (by decide) (Nat.le_of_ble_eq_true rfl) rfl ?_
  intro p e s m args below meth c A C hT
  refine xaload_0 C dX5_islandCount_0 ?_
  refine xprop C hT m_X5_needReading k_X5_167 (c_X5_needReading l hl9 G tc a0 aT aK aI aM aB lt i) dX5_islandCount_1 0 rfl [0, 1, 2, 3, 4, 5, 6, 7, 8] (wO a0 aT aK aI aM aB lt ++ wIs tc aI (i)) rfl rfl rfl rfl rfl (by decide) rfl (Nat.le_of_ble_eq_true rfl) ⟨by decide, by decide⟩ (by decide) (by decide) (fun E hE => hE) rfl ?_
  intro hn1
  refine xaload_0 C dX5_islandCount_4 ?_
  refine xget C 0 f_X5_26 dX5_islandCount_5 rfl rfl ?_
  refine xget C 1 f_X5_139 dX5_islandCount_8 rfl rfl ?_
  exact xtiret C dX5_islandCount_11 (by decide) (by decide) (rfl) (hn1) (rfl)
set_option maxHeartbeats 4000000 in
set_option maxRecDepth 100000 in
theorem c_X5_left (l : Launch) (hl9 : l.stackTraces = false) (G : va_G) (tc : Nat → ClassId) (a0 : Nat) (aT aK aI aM aB : Nat → Nat) (lt : Bool) (i : IS) : tI l yX5_left (xw yX5_left cX5_left 1 (some .int)) 1 G tc [.ref a0] (wO a0 aT aK aI aM aB lt ++ wIs tc aI (i)) 1 (thR (iR i)) (nI (iL i)) (wO a0 aT aK aI aM aB lt ++ wIs tc aI (i)) := by
  refine tI_of [some (.ref a0)] 0 (by decide) (Nat.le_of_ble_eq_true rfl) rfl ?_
  intro p e s m args below meth c A C hT
  refine xaload_0 C dX5_left_0 ?_
  refine xprop C hT m_X5_needReading k_X5_167 (c_X5_needReading l hl9 G tc a0 aT aK aI aM aB lt i) dX5_left_1 0 rfl [0, 1, 2, 3, 4, 5, 6, 7, 8] (wO a0 aT aK aI aM aB lt ++ wIs tc aI (i)) rfl rfl rfl rfl rfl (by decide) rfl (Nat.le_of_ble_eq_true rfl) ⟨by decide, by decide⟩ (by decide) (by decide) (fun E hE => hE) rfl ?_
  intro hn1
  refine xaload_0 C dX5_left_4 ?_
  refine xget C 0 f_X5_26 dX5_left_5 rfl rfl ?_
  refine xget C 1 f_X5_152 dX5_left_8 rfl rfl ?_
  exact xtiret C dX5_left_11 (by decide) (by decide) (rfl) (hn1) (rfl)
set_option maxHeartbeats 4000000 in
set_option maxRecDepth 100000 in
theorem c_X5_own (l : Launch) (hl9 : l.stackTraces = false) (G : va_G) (tc : Nat → ClassId) (a0 : Nat) (aT aK aI aM aB : Nat → Nat) (lt : Bool) (i : IS) (hm : iM i ≤ 48) (x : Int32) : tI l yX5_own (xw yX5_own cX5_own 2 (some .int)) 2 G tc [.ref a0, .int x] (wO a0 aT aK aI aM aB lt ++ wIs tc aI (i)) 2 (thI (iR i) (iM i) x) (iE i x.toNatClampNeg - iA i x.toNatClampNeg - bocG (iP i) (iE i) (iA i) x (iM i) 0 0) (wO a0 aT aK aI aM aB lt ++ wIs tc aI (i)) := by
  refine tI_of [some (.ref a0), some (.int x)] 0 (by decide) (Nat.le_of_ble_eq_true rfl) rfl ?_
  intro p e s m args below meth c A C hT
  refine xaload_0 C dX5_own_0 ?_
  refine xiload_1 C dX5_own_1 ?_
  refine xprop C hT m_X5_needIsland k_X5_170 (c_X5_needIsland l hl9 G tc a0 aT aK aI aM aB lt i x) dX5_own_2 0 rfl [0, 1, 2, 3, 4, 5, 6, 7, 8] (wO a0 aT aK aI aM aB lt ++ wIs tc aI (i)) rfl rfl rfl rfl rfl (by decide) rfl (Nat.le_of_ble_eq_true rfl) ⟨by decide, by decide⟩ (by decide) (by decide) (fun E hE => hE) rfl ?_
  intro hn2
  refine xaload_0 C dX5_own_5 ?_
  refine xget C 0 f_X5_26 dX5_own_6 rfl rfl ?_
  refine xget C 1 f_X5_178 dX5_own_9 rfl rfl ?_
  refine xiload_1 C dX5_own_12 ?_
  refine xiald C 4 dX5_own_13 rfl (thI_n hn2 hm) ?_
  refine xaload_0 C dX5_own_14 ?_
  refine xget C 0 f_X5_26 dX5_own_15 rfl rfl ?_
  refine xget C 1 f_X5_175 dX5_own_18 rfl rfl ?_
  refine xiload_1 C dX5_own_21 ?_
  refine xiald C 3 dX5_own_22 rfl (thI_n hn2 hm) ?_
  refine xisub C dX5_own_23 ?_
  refine xaload_0 C dX5_own_24 ?_
  refine xget C 0 f_X5_26 dX5_own_25 rfl rfl ?_
  refine xiload_1 C dX5_own_28 ?_
  refine xcallVi0 C m_X1_bytesOfChildren k_X5_190 (c_boc l G tc aI i hm x) dX5_own_29 1 rfl [1, 2, 3, 4, 5, 6, 7, 8] rfl rfl rfl (by decide) rfl (Nat.le_of_ble_eq_true rfl) ⟨by decide, by decide⟩ ?_
  refine xisub C dX5_own_32 ?_
  exact xtiret C dX5_own_33 (by decide) (by decide) (rfl) (hn2) (rfl)
set_option maxHeartbeats 4000000 in
set_option maxRecDepth 100000 in
theorem c_X5_at (l : Launch) (hl9 : l.stackTraces = false) (G : va_G) (tc : Nat → ClassId) (a0 : Nat) (aT aK aI aM aB : Nat → Nat) (lt : Bool) (b : Nat → Int32) (n : Nat) (ec : Int32) (i : IS) (hm : iM i ≤ 48) (x : Int32) : tI l yX5_at (xw yX5_at cX5_at 2 (some .int)) 2 G tc [.ref a0, .int x] (wO a0 aT aK aI aM aB lt ++ (wT tc aT b n ec ++ wIs tc aI (i))) 2 ((thR (iR i)).or (thP n x)) (iaG (iA i) (iE i) x (iM i)) (wO a0 aT aK aI aM aB lt ++ (wT tc aT b n ec ++ wIs tc aI (i))) := by
  refine tI_of [some (.ref a0), some (.int x)] 0 (by decide) (Nat.le_of_ble_eq_true rfl) rfl ?_
  intro p e s m args below meth c A C hT
  refine xaload_0 C dX5_at_0 ?_
  refine xprop C hT m_X5_needReading k_X5_167 (c_X5_needReading l hl9 G tc a0 aT aK aI aM aB lt i) dX5_at_1 0 rfl [0, 3, 4, 5, 6, 7, 8, 9, 10] (wO a0 aT aK aI aM aB lt ++ (wT tc aT b n ec ++ wIs tc aI (i))) rfl rfl rfl rfl rfl (by decide) rfl (Nat.le_of_ble_eq_true rfl) ⟨by decide, by decide⟩ (by decide) (by decide) (fun E hE => by rw [hE]; rfl) rfl ?_
  intro hn1
  refine xaload_0 C dX5_at_4 ?_
  refine xiload_1 C dX5_at_5 ?_
  refine xprop C hT m_X5_needPlace k_X5_77 (c_X5_needPlace l hl9 G tc a0 aT aK aI aM aB lt b n ec x) dX5_at_6 0 rfl [0, 1, 2] (wO a0 aT aK aI aM aB lt ++ (wT tc aT b n ec ++ wIs tc aI (i))) rfl rfl rfl rfl rfl (by decide) rfl (Nat.le_of_ble_eq_true rfl) ⟨by decide, by decide⟩ (by decide) (by decide) (fun E hE => by rw [hn1, hE]; rfl) rfl ?_
  intro hn6
  refine xaload_0 C dX5_at_9 ?_
  refine xget C 0 f_X5_26 dX5_at_10 rfl rfl ?_
  refine xiload_1 C dX5_at_13 ?_
  refine xcallVi0 C m_X1_innermostAround k_X5_193 (c_iar l G tc aI i hm x) dX5_at_14 3 rfl [3, 4, 5, 6, 7, 8, 9, 10] rfl rfl rfl (by decide) rfl (Nat.le_of_ble_eq_true rfl) ⟨by decide, by decide⟩ ?_
  exact xtiret C dX5_at_17 (by decide) (by decide) (rfl) (by rw [hn1, hn6]; rfl) (rfl)
set_option maxHeartbeats 4000000 in
set_option maxRecDepth 100000 in
theorem c_X5_water (l : Launch) (hl9 : l.stackTraces = false) (G : va_G) (tc : Nat → ClassId) (a0 : Nat) (aT aK aI aM aB : Nat → Nat) (lt : Bool) (b : Nat → Int32) (n : Nat) (ec : Int32) (i : IS) (hm : iM i ≤ 48) : tI l yX5_water (xw yX5_water cX5_water 1 (some .int)) 1 G tc [.ref a0] (wO a0 aT aK aI aM aB lt ++ (wT tc aT b n ec ++ wIs tc aI (i))) 1 (thR (iR i)) (nI n - bocG (iP i) (iE i) (iA i) (-1) (iM i) 0 0) (wO a0 aT aK aI aM aB lt ++ (wT tc aT b n ec ++ wIs tc aI (i))) := by
  refine tI_of [some (.ref a0)] 0 (by decide) (Nat.le_of_ble_eq_true rfl) rfl ?_
  intro p e s m args below meth c A C hT
  refine xaload_0 C dX5_water_0 ?_
  refine xprop C hT m_X5_needReading k_X5_167 (c_X5_needReading l hl9 G tc a0 aT aK aI aM aB lt i) dX5_water_1 0 rfl [0, 3, 4, 5, 6, 7, 8, 9, 10] (wO a0 aT aK aI aM aB lt ++ (wT tc aT b n ec ++ wIs tc aI (i))) rfl rfl rfl rfl rfl (by decide) rfl (Nat.le_of_ble_eq_true rfl) ⟨by decide, by decide⟩ (by decide) (by decide) (fun E hE => hE) rfl ?_
  intro hn1
  refine xaload_0 C dX5_water_4 ?_
  refine xget C 0 f_X5_10 dX5_water_5 rfl rfl ?_
  refine xget C 1 f_X5_59 dX5_water_8 rfl rfl ?_
  refine xaload_0 C dX5_water_11 ?_
  refine xget C 0 f_X5_26 dX5_water_12 rfl rfl ?_
  refine xiconst C (-1) dX5_water_15 (by decide) ?_
  refine xcallVi0 C m_X1_bytesOfChildren k_X5_190 (c_boc l G tc aI i hm (-1)) dX5_water_16 3 rfl [3, 4, 5, 6, 7, 8, 9, 10] rfl rfl rfl (by decide) rfl (Nat.le_of_ble_eq_true rfl) ⟨by decide, by decide⟩ ?_
  refine xisub C dX5_water_19 ?_
  exact xtiret C dX5_water_20 (by decide) (by decide) (rfl) (hn1) (rfl)
set_option maxHeartbeats 4000000 in
set_option maxRecDepth 100000 in
theorem c_X5_count (l : Launch) (hl9 : l.stackTraces = false) (G : va_G) (tc : Nat → ClassId) (a0 : Nat) (aT aK aI aM aB : Nat → Nat) (lt : Bool) (i : IS) (hm : iM i ≤ 48) (x y : Int32) : tI l yX5_count (xw yX5_count cX5_count 5 (some .int)) 1 G tc [.ref a0, .int x, .int y] (wO a0 aT aK aI aM aB lt ++ wIs tc aI (i)) 3 ((thR (iR i)).or ((thK x).or (if (decide (y < 0) || !decide (y < 3)) = true then some xIO else none))) (nI (cntG (iK i) (iT i) x y (iM i) 0 0)) (wO a0 aT aK aI aM aB lt ++ wIs tc aI (i)) := by
  refine tI_of [some (.ref a0), some (.int x), some (.int y), none, none] 2 (by decide) (Nat.le_of_ble_eq_true rfl) rfl ?_
  intro p e s m args below meth c A C hT
  refine xaload_0 C dX5_count_0 ?_
  refine xprop C hT m_X5_needReading k_X5_167 (c_X5_needReading l hl9 G tc a0 aT aK aI aM aB lt i) dX5_count_1 0 rfl [0, 1, 2, 3, 4, 5, 6, 7, 8] (wO a0 aT aK aI aM aB lt ++ wIs tc aI (i)) rfl rfl rfl rfl rfl (by decide) rfl (Nat.le_of_ble_eq_true rfl) ⟨by decide, by decide⟩ (by decide) (by decide) (fun E hE => by rw [hE]; rfl) rfl ?_
  intro hn1
  refine xaload_0 C dX5_count_4 ?_
  refine xiload_1 C dX5_count_5 ?_
  refine xprop C hT m_X5_needKind k_X5_91 (c_X5_needKind l hl9 G tc a0 aT aK aI aM aB lt x) dX5_count_6 0 rfl [0] (wO a0 aT aK aI aM aB lt ++ wIs tc aI (i)) rfl rfl rfl rfl rfl (by decide) rfl (Nat.le_of_ble_eq_true rfl) ⟨by decide, by decide⟩ (by decide) (by decide) (fun E hE => by rw [hn1, hE]; rfl) rfl ?_
  intro hn6
  refine xiload_2 C dX5_count_9 ?_
  refine xif_lt C (tgt := 18) dX5_count_10 (by decide) (fun h10 => ?_) (fun h10 => ?_)
  · skip
    exact xthrow C hl9 hT th_IO (List.mem_of_getElem? (i := 13) rfl) dX5_count_18 dX5_count_21 dX5_count_22 dX5_count_24 dX5_count_27 (Nat.le_of_ble_eq_true rfl) ⟨by decide, by decide⟩ (by decide) (by decide) (by rw [hn1, hn6]; simp [*]) (rfl)
  · skip
    refine xiload_2 C dX5_count_13 ?_
    refine xiconst C (3) dX5_count_14 (by decide) ?_
    refine xicmp_lt C (tgt := 28) dX5_count_15 (by decide) (fun h15 => ?_) (fun h15 => ?_)
    · skip
      have loop : ∀ (f k z : Nat), k + f = iM i → z ≤ k → cntG (iK i) (iT i) x y f k z = cntG (iK i) (iT i) x y (iM i) 0 0 → xAT p l e (xR 1 3 (6 * 3)) s m args below meth c (xTi below args s G A (wO a0 aT aK aI aM aB lt ++ wIs tc aI (i)) 3 ((thR (iR i)).or ((thK x).or (if (decide (y < 0) || !decide (y < 3)) = true then some xIO else none))) (nI (cntG (iK i) (iT i) x y (iM i) 0 0)) (wO a0 aT aK aI aM aB lt ++ wIs tc aI (i))) G A 5 2 12 (wO a0 aT aK aI aM aB lt ++ wIs tc aI (i)) [some (.ref a0), some (.int x), some (.int y), some (.int (nI z)), some (.int (nI k))] 33 [] := by
        intro f
        induction f with
        | zero =>
          intro k z hk hzk hz
          have hk : k = iM i := hk
          have hz : z = cntG (iK i) (iT i) x y (iM i) 0 0 := hz
          refine xiload_4 C dX5_count_33 ?_
          refine xaload_0 C dX5_count_35 ?_
          refine xget C 0 f_X5_26 dX5_count_36 rfl rfl ?_
          refine xget C 1 f_X5_139 dX5_count_39 rfl rfl ?_
          refine xicmp_ge C (tgt := 82) dX5_count_42 (by decide) (fun h42 => ?_) (fun h42 => ?_)
          · skip
            refine xiload_3 C dX5_count_82 ?_
            exact xtiret C dX5_count_83 (by decide) (by decide) (by rw [hz]) (by rw [hn1, hn6]; simp [h10, h15]) (rfl)
          · skip
            exact absurd (show nI (iM i) ≤ nI k from by rw [hk]; exact Int32.le_refl _) h42
        | succ f ih =>
          intro k z hk hzk hz
          rw [cntG] at hz
          have hkm : k < iM i := by omega
          refine xiload_4 C dX5_count_33 ?_
          refine xaload_0 C dX5_count_35 ?_
          refine xget C 0 f_X5_26 dX5_count_36 rfl rfl ?_
          refine xget C 1 f_X5_139 dX5_count_39 rfl rfl ?_
          refine xicmp_ge C (tgt := 82) dX5_count_42 (by decide) (fun h42 => ?_) (fun h42 => ?_)
          · skip
            exact absurd h42 (nI_ge hkm (by omega))
          · skip
            refine xaload_0 C dX5_count_45 ?_
            refine xget C 0 f_X5_26 dX5_count_46 rfl rfl ?_
            refine xget C 1 f_X5_173 dX5_count_49 rfl rfl ?_
            refine xiload_4 C dX5_count_52 ?_
            refine xialdN C (k) 2 dX5_count_54 rfl (by omega) (rfl) (by decide) ?_
            refine xiload_1 C dX5_count_55 ?_
            refine xicmp_ne C (tgt := 76) dX5_count_56 (by decide) (fun h56 => ?_) (fun h56 => ?_)
            · skip
              refine xiinc_4 C (nI (k + 1)) dX5_count_76 (nI_1 k) rfl (by decide) ?_
              refine xgoto C (tgt := 33) dX5_count_79 (by decide) ?_
              exact ih (k + 1) z (by omega) (by omega) (by rw [← hz, if_neg (by simp [h56])])
            · skip
              refine xaload_0 C dX5_count_59 ?_
              refine xget C 0 f_X5_26 dX5_count_60 rfl rfl ?_
              refine xget C 1 f_X5_181 dX5_count_63 rfl rfl ?_
              refine xiload_4 C dX5_count_66 ?_
              refine xialdN C (k) 5 dX5_count_68 rfl (by omega) (rfl) (by decide) ?_
              refine xiload_2 C dX5_count_69 ?_
              refine xicmp_ne C (tgt := 76) dX5_count_70 (by decide) (fun h70 => ?_) (fun h70 => ?_)
              · skip
                refine xiinc_4 C (nI (k + 1)) dX5_count_76 (nI_1 k) rfl (by decide) ?_
                refine xgoto C (tgt := 33) dX5_count_79 (by decide) ?_
                exact ih (k + 1) z (by omega) (by omega) (by rw [← hz, if_neg (by simp [h70])])
              · skip
                refine xiinc_3 C (nI (z + 1)) dX5_count_73 (nI_1 z) rfl (by decide) ?_
                refine xiinc_4 C (nI (k + 1)) dX5_count_76 (nI_1 k) rfl (by decide) ?_
                refine xgoto C (tgt := 33) dX5_count_79 (by decide) ?_
                exact ih (k + 1) (z + 1) (by omega) (by omega) (by rw [← hz, if_pos (by simp [h56, h70])])
      refine xiconst C (nI 0) dX5_count_28 (by decide) ?_
      refine xistore_3 C dX5_count_29 rfl (by decide) ?_
      refine xiconst C (nI 0) dX5_count_30 (by decide) ?_
      refine xistore_4 C dX5_count_31 rfl (by decide) ?_
      exact loop (iM i) 0 0 (by omega) (Nat.le_refl _) rfl
    · skip
      exact xthrow C hl9 hT th_IO (List.mem_of_getElem? (i := 13) rfl) dX5_count_18 dX5_count_21 dX5_count_22 dX5_count_24 dX5_count_27 (Nat.le_of_ble_eq_true rfl) ⟨by decide, by decide⟩ (by decide) (by decide) (by rw [hn1, hn6]; simp [*]) (rfl)
set_option maxHeartbeats 4000000 in
set_option maxRecDepth 100000 in
theorem c_X5_byteAt (l : Launch) (hl9 : l.stackTraces = false) (G : va_G) (tc : Nat → ClassId) (a0 : Nat) (aT aK aI aM aB : Nat → Nat) (lt : Bool) (b : Nat → Int32) (n : Nat) (ec : Int32) (hn : n ≤ 48) (x : Int32) : tI l yX5_byteAt (xw yX5_byteAt cX5_byteAt 2 (some .int)) 2 G tc [.ref a0, .int x] (wO a0 aT aK aI aM aB lt ++ wT tc aT b n ec) 1 (thP n x) (b x.toNatClampNeg) (wO a0 aT aK aI aM aB lt ++ wT tc aT b n ec) := by
  refine tI_of [some (.ref a0), some (.int x)] 0 (by decide) (Nat.le_of_ble_eq_true rfl) rfl ?_
  intro p e s m args below meth c A C hT
  refine xaload_0 C dX5_byteAt_0 ?_
  refine xiload_1 C dX5_byteAt_1 ?_
  refine xprop C hT m_X5_needPlace k_X5_77 (c_X5_needPlace l hl9 G tc a0 aT aK aI aM aB lt b n ec x) dX5_byteAt_2 0 rfl [0, 1, 2] (wO a0 aT aK aI aM aB lt ++ wT tc aT b n ec) rfl rfl rfl rfl rfl (by decide) rfl (Nat.le_of_ble_eq_true rfl) ⟨by decide, by decide⟩ (by decide) (by decide) (fun E hE => hE) rfl ?_
  intro hn2
  refine xaload_0 C dX5_byteAt_5 ?_
  refine xget C 0 f_X5_10 dX5_byteAt_6 rfl rfl ?_
  refine xget C 1 f_X5_82 dX5_byteAt_9 rfl rfl ?_
  refine xiload_1 C dX5_byteAt_12 ?_
  refine xiald C 2 dX5_byteAt_13 rfl (hasP_in (thP_n hn2) hn) ?_
  exact xtiret C dX5_byteAt_14 (by decide) (by decide) (rfl) (hn2) (rfl)
set_option maxHeartbeats 4000000 in
set_option maxRecDepth 100000 in
theorem c_X5_set (l : Launch) (hl9 : l.stackTraces = false) (G : va_G) (tc : Nat → ClassId) (a0 : Nat) (aT aK aI aM aB : Nat → Nat) (lt : Bool) (b : Nat → Int32) (n : Nat) (ec : Int32) (i : IS) (hn : n ≤ 48) (x y : Int32) : tI l yX5_set (xw yX5_set cX5_set 4 (some .int)) 2 G tc [.ref a0, .int x, .int y] (wO a0 aT aK aI aM aB lt ++ (wT tc aT (b) (n) (ec) ++ wIs tc aI (i))) 2 ((thP n x).or (if txB y = true then none else some xIA)) (b x.toNatClampNeg) (wO a0 aT aK aI aM aB lt ++ (wT tc aT (upd b x.toNatClampNeg y) (n) (ec) ++ wIs tc aI (fgI i))) := by
  refine tI_of [some (.ref a0), some (.int x), some (.int y), none] 1 (by decide) (Nat.le_of_ble_eq_true rfl) rfl ?_
  intro p e s m args below meth c A C hT
  refine xaload_0 C dX5_set_0 ?_
  refine xiload_1 C dX5_set_1 ?_
  refine xprop C hT m_X5_needPlace k_X5_77 (c_X5_needPlace l hl9 G tc a0 aT aK aI aM aB lt b n ec x) dX5_set_2 0 rfl [0, 1, 2] (wO a0 aT aK aI aM aB lt ++ (wT tc aT (b) (n) (ec) ++ wIs tc aI (i))) rfl rfl rfl rfl rfl (by decide) rfl (Nat.le_of_ble_eq_true rfl) ⟨by decide, by decide⟩ (by decide) (by decide) (fun E hE => by rw [hE]; rfl) rfl ?_
  intro hn2
  refine xiload_2 C dX5_set_5 ?_
  refine xcallSi0 C m_X5_isTextByte k_X5_48 (c_X5_isTextByte l G tc y) dX5_set_6 ([] : List Nat) rfl rfl rfl (by decide) rfl (Nat.le_of_ble_eq_true rfl) ⟨by decide, by decide⟩ ?_
  refine xif_ne C (tgt := 22) dX5_set_9 (by decide) (fun h9 => ?_) (fun h9 => ?_)
  · skip
    have h9 := bI1 h9
    refine xaload_0 C dX5_set_22 ?_
    refine xget C 0 f_X5_10 dX5_set_23 rfl rfl ?_
    refine xget C 1 f_X5_82 dX5_set_26 rfl rfl ?_
    refine xiload_1 C dX5_set_29 ?_
    refine xiald C 2 dX5_set_30 rfl (hasP_in (thP_n hn2) hn) ?_
    refine xistore_3 C dX5_set_31 rfl (by decide) ?_
    refine xaload_0 C dX5_set_32 ?_
    refine xget C 0 f_X5_10 dX5_set_33 rfl rfl ?_
    refine xget C 1 f_X5_82 dX5_set_36 rfl rfl ?_
    refine xiload_1 C dX5_set_39 ?_
    refine xiload_2 C dX5_set_40 ?_
    refine xiast C 2 (wO a0 aT aK aI aM aB lt ++ (wT tc aT (upd b x.toNatClampNeg y) (n) (ec) ++ wIs tc aI (i))) dX5_set_41 rfl (hasP_in (thP_n hn2) hn) rfl ?_
    refine xaload_0 C dX5_set_42 ?_
    refine xget C 0 f_X5_26 dX5_set_43 rfl rfl ?_
    refine xcallVv C m_X1_forget k_X5_72 (c_fgt l G tc aI i) dX5_set_46 3 rfl [3, 4, 5, 6, 7, 8, 9, 10] (wO a0 aT aK aI aM aB lt ++ (wT tc aT (upd b x.toNatClampNeg y) (n) (ec) ++ wIs tc aI (fgI i))) rfl rfl rfl rfl rfl (by decide) rfl (Nat.le_of_ble_eq_true rfl) ⟨by decide, by decide⟩ ?_
    refine xiload_3 C dX5_set_49 ?_
    exact xtiret C dX5_set_50 (by decide) (by decide) (rfl) (by rw [hn2]; simp [*]) (rfl)
  · skip
    have h9 := bI0 h9
    exact xthrow C hl9 hT th_IA (List.mem_of_getElem? (i := 4) rfl) dX5_set_12 dX5_set_15 dX5_set_16 dX5_set_18 dX5_set_21 (Nat.le_of_ble_eq_true rfl) ⟨by decide, by decide⟩ (by decide) (by decide) (by rw [hn2]; simp [*]) (rfl)
set_option maxHeartbeats 4000000 in
set_option maxRecDepth 100000 in
theorem c_X5_setEscape (l : Launch) (hl9 : l.stackTraces = false) (G : va_G) (tc : Nat → ClassId) (a0 : Nat) (aT aK aI aM aB : Nat → Nat) (lt : Bool) (b : Nat → Int32) (n : Nat) (ec : Int32) (i : IS) (x : Int32) : tI l yX5_setEscape (xw yX5_setEscape cX5_setEscape 3 (some .int)) 1 G tc [.ref a0, .int x] (wO a0 aT aK aI aM aB lt ++ (wT tc aT (b) (n) (ec) ++ wIs tc aI (i))) 1 (if (!decide (x = -1) && !txB x) = true then some xIA else none) (ec) (wO a0 aT aK aI aM aB lt ++ (wT tc aT (b) (n) (x) ++ wIs tc aI (fgI i))) := by
  refine tI_of [some (.ref a0), some (.int x), none] 1 (by decide) (Nat.le_of_ble_eq_true rfl) rfl ?_
  intro p e s m args below meth c A C hT
  refine xiload_1 C dX5_setEscape_0 ?_
  refine xiconst C (-1) dX5_setEscape_1 (by decide) ?_
  refine xicmp_eq C (tgt := 22) dX5_setEscape_2 (by decide) (fun h2 => ?_) (fun h2 => ?_)
  · skip
    refine xaload_0 C dX5_setEscape_22 ?_
    refine xget C 0 f_X5_10 dX5_setEscape_23 rfl rfl ?_
    refine xget C 1 f_X5_88 dX5_setEscape_26 rfl rfl ?_
    refine xistore_2 C dX5_setEscape_29 rfl (by decide) ?_
    refine xaload_0 C dX5_setEscape_30 ?_
    refine xget C 0 f_X5_10 dX5_setEscape_31 rfl rfl ?_
    refine xiload_1 C dX5_setEscape_34 ?_
    refine xput C 1 (wO a0 aT aK aI aM aB lt ++ (wT tc aT (b) (n) (x) ++ wIs tc aI (i))) fw_X5_88 dX5_setEscape_35 rfl (Nat.le_of_ble_eq_true rfl) rfl rfl rfl ?_
    refine xaload_0 C dX5_setEscape_38 ?_
    refine xget C 0 f_X5_26 dX5_setEscape_39 rfl rfl ?_
    refine xcallVv C m_X1_forget k_X5_72 (c_fgt l G tc aI i) dX5_setEscape_42 3 rfl [3, 4, 5, 6, 7, 8, 9, 10] (wO a0 aT aK aI aM aB lt ++ (wT tc aT (b) (n) (x) ++ wIs tc aI (fgI i))) rfl rfl rfl rfl rfl (by decide) rfl (Nat.le_of_ble_eq_true rfl) ⟨by decide, by decide⟩ ?_
    refine xiload_2 C dX5_setEscape_45 ?_
    exact xtiret C dX5_setEscape_46 (by decide) (by decide) (rfl) (by simp [*]) (rfl)
  · skip
    refine xiload_1 C dX5_setEscape_5 ?_
    refine xcallSi0 C m_X5_isTextByte k_X5_48 (c_X5_isTextByte l G tc x) dX5_setEscape_6 ([] : List Nat) rfl rfl rfl (by decide) rfl (Nat.le_of_ble_eq_true rfl) ⟨by decide, by decide⟩ ?_
    refine xif_ne C (tgt := 22) dX5_setEscape_9 (by decide) (fun h9 => ?_) (fun h9 => ?_)
    · skip
      have h9 := bI1 h9
      refine xaload_0 C dX5_setEscape_22 ?_
      refine xget C 0 f_X5_10 dX5_setEscape_23 rfl rfl ?_
      refine xget C 1 f_X5_88 dX5_setEscape_26 rfl rfl ?_
      refine xistore_2 C dX5_setEscape_29 rfl (by decide) ?_
      refine xaload_0 C dX5_setEscape_30 ?_
      refine xget C 0 f_X5_10 dX5_setEscape_31 rfl rfl ?_
      refine xiload_1 C dX5_setEscape_34 ?_
      refine xput C 1 (wO a0 aT aK aI aM aB lt ++ (wT tc aT (b) (n) (x) ++ wIs tc aI (i))) fw_X5_88 dX5_setEscape_35 rfl (Nat.le_of_ble_eq_true rfl) rfl rfl rfl ?_
      refine xaload_0 C dX5_setEscape_38 ?_
      refine xget C 0 f_X5_26 dX5_setEscape_39 rfl rfl ?_
      refine xcallVv C m_X1_forget k_X5_72 (c_fgt l G tc aI i) dX5_setEscape_42 3 rfl [3, 4, 5, 6, 7, 8, 9, 10] (wO a0 aT aK aI aM aB lt ++ (wT tc aT (b) (n) (x) ++ wIs tc aI (fgI i))) rfl rfl rfl rfl rfl (by decide) rfl (Nat.le_of_ble_eq_true rfl) ⟨by decide, by decide⟩ ?_
      refine xiload_2 C dX5_setEscape_45 ?_
      exact xtiret C dX5_setEscape_46 (by decide) (by decide) (rfl) (by simp [*]) (rfl)
    · skip
      have h9 := bI0 h9
      exact xthrow C hl9 hT th_IA (List.mem_of_getElem? (i := 5) rfl) dX5_setEscape_12 dX5_setEscape_15 dX5_setEscape_16 dX5_setEscape_18 dX5_setEscape_21 (Nat.le_of_ble_eq_true rfl) ⟨by decide, by decide⟩ (by decide) (by decide) (by simp [*]) (rfl)
set_option maxHeartbeats 4000000 in
set_option maxRecDepth 100000 in
theorem c_X5_cut (l : Launch) (hl9 : l.stackTraces = false) (G : va_G) (tc : Nat → ClassId) (a0 : Nat) (aT aK aI aM aB : Nat → Nat) (lt : Bool) (b : Nat → Int32) (n : Nat) (ec : Int32) (i : IS) (hn : n ≤ 48) (x : Int32) : tI l yX5_cut (xw yX5_cut cX5_cut 2 (some .int)) 1 G tc [.ref a0, .int x] (wO a0 aT aK aI aM aB lt ++ (wT tc aT (b) (n) (ec) ++ wIs tc aI (i))) 1 (if (decide (x < 0) || !decide (x ≤ nI n)) = true then some xIA else none) (nI (n - x.toNatClampNeg)) (wO a0 aT aK aI aM aB lt ++ (wT tc aT (b) (n - x.toNatClampNeg) (ec) ++ wIs tc aI (fgI i))) := by
  refine tI_of [some (.ref a0), some (.int x)] 0 (by decide) (Nat.le_of_ble_eq_true rfl) rfl ?_
  intro p e s m args below meth c A C hT
  refine xiload_1 C dX5_cut_0 ?_
  refine xif_lt C (tgt := 15) dX5_cut_1 (by decide) (fun h1 => ?_) (fun h1 => ?_)
  · skip
    exact xthrow C hl9 hT th_IA (List.mem_of_getElem? (i := 2) rfl) dX5_cut_15 dX5_cut_18 dX5_cut_19 dX5_cut_21 dX5_cut_24 (Nat.le_of_ble_eq_true rfl) ⟨by decide, by decide⟩ (by decide) (by decide) (by simp [*]) (rfl)
  · skip
    refine xiload_1 C dX5_cut_4 ?_
    refine xaload_0 C dX5_cut_5 ?_
    refine xget C 0 f_X5_10 dX5_cut_6 rfl rfl ?_
    refine xget C 1 f_X5_59 dX5_cut_9 rfl rfl ?_
    refine xicmp_le C (tgt := 25) dX5_cut_12 (by decide) (fun h12 => ?_) (fun h12 => ?_)
    · skip
      refine xaload_0 C dX5_cut_25 ?_
      refine xget C 0 f_X5_10 dX5_cut_26 rfl rfl ?_
      refine xdup C dX5_cut_29 rfl ?_
      refine xget C 1 f_X5_59 dX5_cut_30 rfl rfl ?_
      refine xiload_1 C dX5_cut_33 ?_
      refine xisub C dX5_cut_34 ?_
      refine xtop (w := .int (nI (n - x.toNatClampNeg))) (congrArg Value.int (cut_sub h1 h12 hn)) ?_
      refine xput C 1 (wO a0 aT aK aI aM aB lt ++ (wT tc aT (b) (n - x.toNatClampNeg) (ec) ++ wIs tc aI (i))) fw_X5_59 dX5_cut_35 rfl (Nat.le_of_ble_eq_true rfl) rfl rfl rfl ?_
      refine xaload_0 C dX5_cut_38 ?_
      refine xget C 0 f_X5_26 dX5_cut_39 rfl rfl ?_
      refine xcallVv C m_X1_forget k_X5_72 (c_fgt l G tc aI i) dX5_cut_42 3 rfl [3, 4, 5, 6, 7, 8, 9, 10] (wO a0 aT aK aI aM aB lt ++ (wT tc aT (b) (n - x.toNatClampNeg) (ec) ++ wIs tc aI (fgI i))) rfl rfl rfl rfl rfl (by decide) rfl (Nat.le_of_ble_eq_true rfl) ⟨by decide, by decide⟩ ?_
      refine xaload_0 C dX5_cut_45 ?_
      refine xget C 0 f_X5_10 dX5_cut_46 rfl rfl ?_
      refine xget C 1 f_X5_59 dX5_cut_49 rfl rfl ?_
      exact xtiret C dX5_cut_52 (by decide) (by decide) (rfl) (by simp [*]) (rfl)
    · skip
      exact xthrow C hl9 hT th_IA (List.mem_of_getElem? (i := 2) rfl) dX5_cut_15 dX5_cut_18 dX5_cut_19 dX5_cut_21 dX5_cut_24 (Nat.le_of_ble_eq_true rfl) ⟨by decide, by decide⟩ (by decide) (by decide) (by simp [*]) (rfl)
set_option maxHeartbeats 4000000 in
set_option maxRecDepth 100000 in
theorem c_X5_size (l : Launch) (G : va_G) (tc : Nat → ClassId) (a0 : Nat) (aT aK aI aM aB : Nat → Nat) (lt : Bool) (b : Nat → Int32) (n : Nat) (ec : Int32) : kI l yX5_size (xw yX5_size cX5_size 1 (some .int)) 0 G tc [.ref a0] (wO a0 aT aK aI aM aB lt ++ wT tc aT b n ec) (nI n) (wO a0 aT aK aI aM aB lt ++ wT tc aT b n ec) := by
  refine kI_of [some (.ref a0)] 0 (by decide) (Nat.le_of_ble_eq_true rfl) rfl ?_
  intro p e s m args below meth c A C
  refine xaload_0 C dX5_size_0 ?_
  refine xget C 0 f_X5_10 dX5_size_1 rfl rfl ?_
  refine xget C 1 f_X5_59 dX5_size_4 rfl rfl ?_
  exact xiret C dX5_size_7 (by first | rfl | (simp [*]; done)) (rfl)
set_option maxHeartbeats 4000000 in
set_option maxRecDepth 100000 in
theorem c_X5_hasReading (l : Launch) (G : va_G) (tc : Nat → ClassId) (a0 : Nat) (aT aK aI aM aB : Nat → Nat) (lt : Bool) (i : IS) : kI l yX5_hasReading (xw yX5_hasReading cX5_hasReading 1 (some .boolean)) 0 G tc [.ref a0] (wO a0 aT aK aI aM aB lt ++ wIs tc aI (i)) (bI (iR i)) (wO a0 aT aK aI aM aB lt ++ wIs tc aI (i)) := by
  refine kI_of [some (.ref a0)] 0 (by decide) (Nat.le_of_ble_eq_true rfl) rfl ?_
  intro p e s m args below meth c A C
  refine xaload_0 C dX5_hasReading_0 ?_
  refine xget C 0 f_X5_26 dX5_hasReading_1 rfl rfl ?_
  refine xget C 1 f_X5_155 dX5_hasReading_4 rfl rfl ?_
  exact xzret C dX5_hasReading_7 (by first | rfl | exact bI_nar _) (by first | rfl | (simp [*]; done)) (rfl)
set_option maxHeartbeats 4000000 in
set_option maxRecDepth 100000 in
theorem c_X5_setLenient (l : Launch) (G : va_G) (tc : Nat → ClassId) (a0 : Nat) (aT aK aI aM aB : Nat → Nat) (lt : Bool) (i : IS) (v : Bool) : kI l yX5_setLenient (xw yX5_setLenient cX5_setLenient 3 (some .boolean)) 1 G tc [.ref a0, .int (bI v)] (wO a0 aT aK aI aM aB lt ++ wIs tc aI (i)) (bI lt) (wO a0 aT aK aI aM aB (v) ++ wIs tc aI (fgI i)) := by
  refine kI_of [some (.ref a0), some (.int (bI v)), none] 1 (by decide) (Nat.le_of_ble_eq_true rfl) rfl ?_
  intro p e s m args below meth c A C
  refine xaload_0 C dX5_setLenient_0 ?_
  refine xget C 0 f_X5_44 dX5_setLenient_1 rfl rfl ?_
  refine xistore_2 C dX5_setLenient_4 rfl (by decide) ?_
  refine xaload_0 C dX5_setLenient_5 ?_
  refine xiload_1 C dX5_setLenient_6 ?_
  refine xput C 0 (wO a0 aT aK aI aM aB (v) ++ wIs tc aI (i)) fw_X5_44 dX5_setLenient_7 rfl (Nat.le_of_ble_eq_true rfl) (bI_nar _) (bI_fit _) rfl ?_
  refine xaload_0 C dX5_setLenient_10 ?_
  refine xget C 0 f_X5_26 dX5_setLenient_11 rfl rfl ?_
  refine xcallVv C m_X1_forget k_X5_72 (c_fgt l G tc aI i) dX5_setLenient_14 1 rfl [1, 2, 3, 4, 5, 6, 7, 8] (wO a0 aT aK aI aM aB (v) ++ wIs tc aI (fgI i)) rfl rfl rfl rfl rfl (by decide) rfl (Nat.le_of_ble_eq_true rfl) ⟨by decide, by decide⟩ ?_
  refine xiload_2 C dX5_setLenient_17 ?_
  exact xzret C dX5_setLenient_18 (by first | rfl | exact bI_nar _) (by first | rfl | (simp [*]; done)) (rfl)
