set_option maxHeartbeats 4000000 in
set_option maxRecDepth 100000 in
theorem c_X1_forget (l : Launch) (G : va_G) (tc : Nat → ClassId) (a : Nat → Nat) (ik ia ie it ip id io : Nat → Int32) (im iq il : Nat) (ir : Bool) : kV l yX1_forget (xw yX1_forget cX1_forget 1 none) 0 G tc [.ref (a 0)] (wI tc a ik ia ie it ip id io im iq il ir) (wI tc a (ik) (ia) (ie) (it) (ip) (id) (io) (im) (iq) (il) (false)) := by
  refine kV_of [some (.ref (a 0))] 0 (by decide) (Nat.le_of_ble_eq_true rfl) rfl ?_
  intro p e s m args below meth c A C
  refine xaload_0 C dX1_forget_0 ?_
  refine xiconst C (0) dX1_forget_1 (by decide) ?_
  refine xput C 0 (wI tc a (ik) (ia) (ie) (it) (ip) (id) (io) (im) (iq) (il) (false)) fw_X1_43 dX1_forget_2 rfl (Nat.le_of_ble_eq_true rfl) rfl rfl rfl ?_
  exact xvret C dX1_forget_5 (rfl)
set_option maxHeartbeats 4000000 in
set_option maxRecDepth 100000 in
theorem c_X1_startReading (l : Launch) (G : va_G) (tc : Nat → ClassId) (a : Nat → Nat) (ik ia ie it ip id io : Nat → Int32) (im iq il : Nat) (ir : Bool) : kV l yX1_startReading (xw yX1_startReading cX1_startReading 1 none) 0 G tc [.ref (a 0)] (wI tc a ik ia ie it ip id io im iq il ir) (wI tc a (ik) (ia) (ie) (it) (ip) (id) (io) (0) (0) (0) (true)) := by
  refine kV_of [some (.ref (a 0))] 0 (by decide) (Nat.le_of_ble_eq_true rfl) rfl ?_
  intro p e s m args below meth c A C
  refine xaload_0 C dX1_startReading_0 ?_
  refine xiconst C (0) dX1_startReading_1 (by decide) ?_
  refine xput C 0 (wI tc a (ik) (ia) (ie) (it) (ip) (id) (io) (0) (iq) (il) (ir)) fw_X1_33 dX1_startReading_2 rfl (Nat.le_of_ble_eq_true rfl) rfl rfl rfl ?_
  refine xaload_0 C dX1_startReading_5 ?_
  refine xiconst C (0) dX1_startReading_6 (by decide) ?_
  refine xput C 0 (wI tc a (ik) (ia) (ie) (it) (ip) (id) (io) (0) (0) (il) (ir)) fw_X1_37 dX1_startReading_7 rfl (Nat.le_of_ble_eq_true rfl) rfl rfl rfl ?_
  refine xaload_0 C dX1_startReading_10 ?_
  refine xiconst C (0) dX1_startReading_11 (by decide) ?_
  refine xput C 0 (wI tc a (ik) (ia) (ie) (it) (ip) (id) (io) (0) (0) (0) (ir)) fw_X1_40 dX1_startReading_12 rfl (Nat.le_of_ble_eq_true rfl) rfl rfl rfl ?_
  refine xaload_0 C dX1_startReading_15 ?_
  refine xiconst C (1) dX1_startReading_16 (by decide) ?_
  refine xput C 0 (wI tc a (ik) (ia) (ie) (it) (ip) (id) (io) (0) (0) (0) (true)) fw_X1_43 dX1_startReading_17 rfl (Nat.le_of_ble_eq_true rfl) rfl rfl rfl ?_
  exact xvret C dX1_startReading_20 (rfl)
set_option maxHeartbeats 4000000 in
set_option maxRecDepth 100000 in
theorem c_X1_openIsland (l : Launch) (G : va_G) (tc : Nat → ClassId) (a : Nat → Nat) (ik ia ie it ip id io : Nat → Int32) (im iq il : Nat) (ir : Bool) (hq : iq ≤ 48) (j : Nat) (hj : j < 1000) : kI l yX1_openIsland (xw yX1_openIsland cX1_openIsland 3 (some .int)) 0 G tc [.ref (a 0), .int (nI j)] (wI tc a ik ia ie it ip id io im iq il ir) (opI io iq j) (wI tc a ik ia ie it ip id io im iq il ir) := by
  refine kI_of [some (.ref (a 0)), some (.int (nI j)), none] 1 (by decide) (Nat.le_of_ble_eq_true rfl) rfl ?_
  intro p e s m args below meth c A C
  refine xaload_0 C dX1_openIsland_0 ?_
  refine xget C 0 f_X1_37 dX1_openIsland_1 rfl rfl ?_
  refine xiconst C (1) dX1_openIsland_4 (by decide) ?_
  refine xisub C dX1_openIsland_5 ?_
  refine xiload_1 C dX1_openIsland_6 ?_
  refine xisub C dX1_openIsland_7 ?_
  by_cases hc : j + 1 ≤ iq
  · rw [opI_row hc]
    refine xistore_2 C dX1_openIsland_8 rfl (by decide) ?_
    refine xiload_2 C dX1_openIsland_9 ?_
    refine xif_lt C (tgt := 19) dX1_openIsland_10 (by decide) (fun h10 => ?_) (fun h10 => ?_)
    · skip
      exact absurd h10 (nI_pos (by omega))
    · skip
      refine xiload_2 C dX1_openIsland_13 ?_
      refine xbipush C (48) dX1_openIsland_14 (by decide) ?_
      refine xicmp_lt C (tgt := 23) dX1_openIsland_16 (by decide) (fun h16 => ?_) (fun h16 => ?_)
      · skip
        refine xaload_0 C dX1_openIsland_23 ?_
        refine xget C 0 f_X1_30 dX1_openIsland_24 rfl rfl ?_
        refine xiload_2 C dX1_openIsland_27 ?_
        refine xialdN C (iq - 1 - j) 7 dX1_openIsland_28 rfl (by omega) (rfl) (by decide) ?_
        exact xiret C dX1_openIsland_29 (by rw [opI, if_pos hc]) (rfl)
      · skip
        exact absurd (show nI (iq - 1 - j) < nI 48 from nI_lt (by omega) (by decide)) h16
  · have hng := opI_neg hc hj
    refine xistore_2 C dX1_openIsland_8 rfl (by decide) ?_
    refine xiload_2 C dX1_openIsland_9 ?_
    refine xif_lt C (tgt := 19) dX1_openIsland_10 (by decide) (fun h10 => ?_) (fun h10 => ?_)
    · skip
      refine xiconst C (-1) dX1_openIsland_19 (by decide) ?_
      refine xgoto C (tgt := 29) dX1_openIsland_20 (by decide) ?_
      exact xiret C dX1_openIsland_29 (by rw [opI, if_neg hc]) (rfl)
    · skip
      exact absurd hng h10
set_option maxHeartbeats 4000000 in
set_option maxRecDepth 100000 in
theorem c_X1_begin (l : Launch) (G : va_G) (tc : Nat → ClassId) (a : Nat → Nat) (ik ia ie it ip id io : Nat → Int32) (im iq il : Nat) (ir : Bool) (hm : im < 48) (hq : iq < 48) (x y : Int32) : kV l yX1_begin (xw yX1_begin cX1_begin 3 none) 1 G tc [.ref (a 0), .int x, .int y] (wI tc a ik ia ie it ip id io im iq il ir) (wI tc a (upd ik im x) (upd ia im y) (ie) (it) (upd ip im (opI io iq 0)) (upd id im (nI iq)) (upd io iq (nI im)) (im + 1) (iq + 1) (il) (ir)) := by
  refine kV_of [some (.ref (a 0)), some (.int x), some (.int y)] 0 (by decide) (Nat.le_of_ble_eq_true rfl) rfl ?_
  intro p e s m args below meth c A C
  refine xaload_0 C dX1_begin_0 ?_
  refine xget C 0 f_X1_33 dX1_begin_1 rfl rfl ?_
  refine xbipush C (48) dX1_begin_4 (by decide) ?_
  refine xicmp_ge C (tgt := 18) dX1_begin_6 (by decide) (fun h6 => ?_) (fun h6 => ?_)
  · skip
    exact absurd h6 (nI_ge hm (by decide))
  · skip
    refine xaload_0 C dX1_begin_9 ?_
    refine xget C 0 f_X1_37 dX1_begin_10 rfl rfl ?_
    refine xbipush C (48) dX1_begin_13 (by decide) ?_
    refine xicmp_lt C (tgt := 19) dX1_begin_15 (by decide) (fun h15 => ?_) (fun h15 => ?_)
    · skip
      refine xaload_0 C dX1_begin_19 ?_
      refine xget C 0 f_X1_9 dX1_begin_20 rfl rfl ?_
      refine xaload_0 C dX1_begin_23 ?_
      refine xget C 0 f_X1_33 dX1_begin_24 rfl rfl ?_
      refine xiload_1 C dX1_begin_27 ?_
      refine xiastN C (im) 1 (wI tc a (upd ik im x) (ia) (ie) (it) (ip) (id) (io) (im) (iq) (il) (ir)) dX1_begin_28 rfl (hm) (rfl) (by decide) rfl ?_
      refine xaload_0 C dX1_begin_29 ?_
      refine xget C 0 f_X1_15 dX1_begin_30 rfl rfl ?_
      refine xaload_0 C dX1_begin_33 ?_
      refine xget C 0 f_X1_33 dX1_begin_34 rfl rfl ?_
      refine xiload_2 C dX1_begin_37 ?_
      refine xiastN C (im) 2 (wI tc a (upd ik im x) (upd ia im y) (ie) (it) (ip) (id) (io) (im) (iq) (il) (ir)) dX1_begin_38 rfl (hm) (rfl) (by decide) rfl ?_
      refine xaload_0 C dX1_begin_39 ?_
      refine xget C 0 f_X1_24 dX1_begin_40 rfl rfl ?_
      refine xaload_0 C dX1_begin_43 ?_
      refine xget C 0 f_X1_33 dX1_begin_44 rfl rfl ?_
      refine xaload_0 C dX1_begin_47 ?_
      refine xiconst C (nI 0) dX1_begin_48 (by decide) ?_
      refine xcallVi0 C m_X1_openIsland k_X1_47 (c_X1_openIsland l G tc a (upd ik im x) (upd ia im y) ie it ip id io im iq il ir (by omega) 0 (by decide)) dX1_begin_49 0 rfl [0, 1, 2, 3, 4, 5, 6, 7] rfl rfl rfl (by decide) rfl (Nat.le_of_ble_eq_true rfl) ⟨by decide, by decide⟩ ?_
      refine xiastN C (im) 5 (wI tc a (upd ik im x) (upd ia im y) (ie) (it) (upd ip im (opI io iq 0)) (id) (io) (im) (iq) (il) (ir)) dX1_begin_52 rfl (hm) (rfl) (by decide) rfl ?_
      refine xaload_0 C dX1_begin_53 ?_
      refine xget C 0 f_X1_27 dX1_begin_54 rfl rfl ?_
      refine xaload_0 C dX1_begin_57 ?_
      refine xget C 0 f_X1_33 dX1_begin_58 rfl rfl ?_
      refine xaload_0 C dX1_begin_61 ?_
      refine xget C 0 f_X1_37 dX1_begin_62 rfl rfl ?_
      refine xiastN C (im) 6 (wI tc a (upd ik im x) (upd ia im y) (ie) (it) (upd ip im (opI io iq 0)) (upd id im (nI iq)) (io) (im) (iq) (il) (ir)) dX1_begin_65 rfl (hm) (rfl) (by decide) rfl ?_
      refine xaload_0 C dX1_begin_66 ?_
      refine xget C 0 f_X1_30 dX1_begin_67 rfl rfl ?_
      refine xaload_0 C dX1_begin_70 ?_
      refine xget C 0 f_X1_37 dX1_begin_71 rfl rfl ?_
      refine xaload_0 C dX1_begin_74 ?_
      refine xget C 0 f_X1_33 dX1_begin_75 rfl rfl ?_
      refine xiastN C (iq) 7 (wI tc a (upd ik im x) (upd ia im y) (ie) (it) (upd ip im (opI io iq 0)) (upd id im (nI iq)) (upd io iq (nI im)) (im) (iq) (il) (ir)) dX1_begin_78 rfl (hq) (rfl) (by decide) rfl ?_
      refine xaload_0 C dX1_begin_79 ?_
      refine xdup C dX1_begin_80 rfl ?_
      refine xget C 0 f_X1_37 dX1_begin_81 rfl rfl ?_
      refine xiconst C (1) dX1_begin_84 (by decide) ?_
      refine xiadd C dX1_begin_85 ?_
      refine xtop (w := .int (nI (iq + 1))) (congrArg Value.int (nI_1 iq)) ?_
      refine xput C 0 (wI tc a (upd ik im x) (upd ia im y) (ie) (it) (upd ip im (opI io iq 0)) (upd id im (nI iq)) (upd io iq (nI im)) (im) (iq + 1) (il) (ir)) fw_X1_37 dX1_begin_86 rfl (Nat.le_of_ble_eq_true rfl) rfl rfl rfl ?_
      refine xaload_0 C dX1_begin_89 ?_
      refine xdup C dX1_begin_90 rfl ?_
      refine xget C 0 f_X1_33 dX1_begin_91 rfl rfl ?_
      refine xiconst C (1) dX1_begin_94 (by decide) ?_
      refine xiadd C dX1_begin_95 ?_
      refine xtop (w := .int (nI (im + 1))) (congrArg Value.int (nI_1 im)) ?_
      refine xput C 0 (wI tc a (upd ik im x) (upd ia im y) (ie) (it) (upd ip im (opI io iq 0)) (upd id im (nI iq)) (upd io iq (nI im)) (im + 1) (iq + 1) (il) (ir)) fw_X1_33 dX1_begin_96 rfl (Nat.le_of_ble_eq_true rfl) rfl rfl rfl ?_
      exact xvret C dX1_begin_99 (rfl)
    · skip
      exact absurd (nI_lt hq (by decide)) h15
set_option maxHeartbeats 4000000 in
set_option maxRecDepth 100000 in
theorem c_X1_finish (l : Launch) (G : va_G) (tc : Nat → ClassId) (a : Nat → Nat) (ik ia ie it ip id io : Nat → Int32) (im iq il : Nat) (ir : Bool) (hq : iq + 1 ≤ 48) (j : Nat) (hj : j < 48) (hio : io iq = nI j) (x y : Int32) : kV l yX1_finish (xw yX1_finish cX1_finish 4 none) 1 G tc [.ref (a 0), .int x, .int y] (wI tc a (ik) (ia) (ie) (it) (ip) (id) (io) (im) (iq + 1) (il) (ir)) (wI tc a (ik) (ia) (upd ie j x) (upd it j y) (ip) (id) (io) (im) (iq) (il) (ir)) := by
  refine kV_of [some (.ref (a 0)), some (.int x), some (.int y), none] 1 (by decide) (Nat.le_of_ble_eq_true rfl) rfl ?_
  intro p e s m args below meth c A C
  refine xaload_0 C dX1_finish_0 ?_
  refine xiconst C (nI 0) dX1_finish_1 (by decide) ?_
  refine xcallVi0 C m_X1_openIsland k_X1_47 (c_X1_openIsland l G tc a ik ia ie it ip id io im (iq + 1) il ir hq 0 (by decide)) dX1_finish_2 0 rfl [0, 1, 2, 3, 4, 5, 6, 7] rfl rfl rfl (by decide) rfl (Nat.le_of_ble_eq_true rfl) ⟨by decide, by decide⟩ ?_
  rw [show opI io (iq + 1) 0 = nI j from hio]
  refine xistore_3 C dX1_finish_5 rfl (by decide) ?_
  refine xiload_3 C dX1_finish_6 ?_
  refine xiconst C (-1) dX1_finish_7 (by decide) ?_
  refine xicmp_eq C (tgt := 35) dX1_finish_8 (by decide) (fun h8 => ?_) (fun h8 => ?_)
  · skip
    exact absurd h8 (nI_m1 (by omega))
  · skip
    refine xaload_0 C dX1_finish_11 ?_
    refine xget C 0 f_X1_18 dX1_finish_12 rfl rfl ?_
    refine xiload_3 C dX1_finish_15 ?_
    refine xiload_1 C dX1_finish_16 ?_
    refine xiastN C (j) 3 (wI tc a (ik) (ia) (upd ie j x) (it) (ip) (id) (io) (im) (iq + 1) (il) (ir)) dX1_finish_17 rfl (hj) (rfl) (by decide) rfl ?_
    refine xaload_0 C dX1_finish_18 ?_
    refine xget C 0 f_X1_21 dX1_finish_19 rfl rfl ?_
    refine xiload_3 C dX1_finish_22 ?_
    refine xiload_2 C dX1_finish_23 ?_
    refine xiastN C (j) 4 (wI tc a (ik) (ia) (upd ie j x) (upd it j y) (ip) (id) (io) (im) (iq + 1) (il) (ir)) dX1_finish_24 rfl (hj) (rfl) (by decide) rfl ?_
    refine xaload_0 C dX1_finish_25 ?_
    refine xdup C dX1_finish_26 rfl ?_
    refine xget C 0 f_X1_37 dX1_finish_27 rfl rfl ?_
    refine xiconst C (1) dX1_finish_30 (by decide) ?_
    refine xisub C dX1_finish_31 ?_
    refine xtop (w := .int (nI iq)) (congrArg Value.int (nI_pred iq)) ?_
    refine xput C 0 (wI tc a (ik) (ia) (upd ie j x) (upd it j y) (ip) (id) (io) (im) (iq) (il) (ir)) fw_X1_37 dX1_finish_32 rfl (Nat.le_of_ble_eq_true rfl) rfl rfl rfl ?_
    exact xvret C dX1_finish_35 (rfl)
set_option maxHeartbeats 4000000 in
set_option maxRecDepth 100000 in
theorem c_X1_openKind (l : Launch) (G : va_G) (tc : Nat → ClassId) (a : Nat → Nat) (ik ia ie it ip id io : Nat → Int32) (im iq il : Nat) (ir : Bool) (hq : iq ≤ 48) (hm : im ≤ 48) (hio : opOk io iq im) (j : Nat) (hj : j < 1000) : kI l yX1_openKind (xw yX1_openKind cX1_openKind 3 (some .int)) 1 G tc [.ref (a 0), .int (nI j)] (wI tc a ik ia ie it ip id io im iq il ir) (okd ik io iq j) (wI tc a ik ia ie it ip id io im iq il ir) := by
  refine kI_of [some (.ref (a 0)), some (.int (nI j)), none] 1 (by decide) (Nat.le_of_ble_eq_true rfl) rfl ?_
  intro p e s m args below meth c A C
  refine xaload_0 C dX1_openKind_0 ?_
  refine xiload_1 C dX1_openKind_1 ?_
  refine xcallVi0 C m_X1_openIsland k_X1_47 (c_X1_openIsland l G tc a ik ia ie it ip id io im iq il ir hq j hj) dX1_openKind_2 0 rfl [0, 1, 2, 3, 4, 5, 6, 7] rfl rfl rfl (by decide) rfl (Nat.le_of_ble_eq_true rfl) ⟨by decide, by decide⟩ ?_
  by_cases hc : j + 1 ≤ iq
  · rw [show opI io iq j = io (iq - 1 - j) from if_pos hc]
    obtain ⟨t, ht0, ht⟩ := hio (iq - 1 - j) (by omega)
    have htl : t < 48 := by omega
    refine xistore_2 C dX1_openKind_5 rfl (by decide) ?_
    refine xiload_2 C dX1_openKind_6 ?_
    refine xiconst C (-1) dX1_openKind_7 (by decide) ?_
    refine xicmp_ne C (tgt := 16) dX1_openKind_8 (by decide) (fun h8 => ?_) (fun h8 => ?_)
    · skip
      refine xaload_0 C dX1_openKind_16 ?_
      refine xget C 0 f_X1_9 dX1_openKind_17 rfl rfl ?_
      refine xiload_2 C dX1_openKind_20 ?_
      refine xialdN C (t) 1 dX1_openKind_21 rfl (htl) (ht) (by decide) ?_
      exact xiret C dX1_openKind_22 (by rw [okd, if_pos hc, show (io (iq - 1 - j)).toNatClampNeg = t by rw [ht]; exact nI_clamp (by omega)]) (rfl)
    · skip
      exact absurd (ht.symm.trans h8) (nI_m1 (by omega))
  · rw [show opI io iq j = -1 from if_neg hc]
    refine xistore_2 C dX1_openKind_5 rfl (by decide) ?_
    refine xiload_2 C dX1_openKind_6 ?_
    refine xiconst C (-1) dX1_openKind_7 (by decide) ?_
    refine xicmp_ne C (tgt := 16) dX1_openKind_8 (by decide) (fun h8 => ?_) (fun h8 => ?_)
    · skip
      exact absurd rfl h8
    · skip
      refine xbipush C (6) dX1_openKind_11 (by decide) ?_
      refine xgoto C (tgt := 22) dX1_openKind_13 (by decide) ?_
      exact xiret C dX1_openKind_22 (by rw [okd, if_neg hc]) (rfl)
set_option maxHeartbeats 4000000 in
set_option maxRecDepth 100000 in
theorem c_X1_innermostKind (l : Launch) (G : va_G) (tc : Nat → ClassId) (a : Nat → Nat) (ik ia ie it ip id io : Nat → Int32) (im iq il : Nat) (ir : Bool) (hq : iq ≤ 48) (hm : im ≤ 48) (hio : opOk io iq im) : kI l yX1_innermostKind (xw yX1_innermostKind cX1_innermostKind 1 (some .int)) 2 G tc [.ref (a 0)] (wI tc a ik ia ie it ip id io im iq il ir) (okd ik io iq 0) (wI tc a ik ia ie it ip id io im iq il ir) := by
  refine kI_of [some (.ref (a 0))] 0 (by decide) (Nat.le_of_ble_eq_true rfl) rfl ?_
  intro p e s m args below meth c A C
  refine xaload_0 C dX1_innermostKind_0 ?_
  refine xiconst C (nI 0) dX1_innermostKind_1 (by decide) ?_
  refine xcallVi0 C m_X1_openKind k_X1_51 (c_X1_openKind l G tc a ik ia ie it ip id io im iq il ir hq hm hio 0 (by decide)) dX1_innermostKind_2 0 rfl [0, 1, 2, 3, 4, 5, 6, 7] rfl rfl rfl (by decide) rfl (Nat.le_of_ble_eq_true rfl) ⟨by decide, by decide⟩ ?_
  exact xiret C dX1_innermostKind_5 (by first | rfl | (simp [*]; done)) (rfl)
set_option maxHeartbeats 4000000 in
set_option maxRecDepth 100000 in
theorem c_X1_bytesOfChildren (l : Launch) (G : va_G) (tc : Nat → ClassId) (a : Nat → Nat) (ik ia ie it ip id io : Nat → Int32) (im iq il : Nat) (ir : Bool) (hm : im ≤ 48) (x : Int32) : kI l yX1_bytesOfChildren (xw yX1_bytesOfChildren cX1_bytesOfChildren 4 (some .int)) 0 G tc [.ref (a 0), .int x] (wI tc a ik ia ie it ip id io im iq il ir) (bocG ip ie ia x im 0 0) (wI tc a ik ia ie it ip id io im iq il ir) := by
  refine kI_of [some (.ref (a 0)), some (.int x), none, none] 2 (by decide) (Nat.le_of_ble_eq_true rfl) rfl ?_
  intro p e s m args below meth c A C
  have loop : ∀ (n k : Nat) (z : Int32), k + n = im → bocG ip ie ia x n k z = bocG ip ie ia x im 0 0 → xAT p l e (xR 0 0 0) s m args below meth c (xQi below args s G A (bocG ip ie ia x im 0 0) (wI tc a ik ia ie it ip id io im iq il ir)) G A 4 0 0 (wI tc a ik ia ie it ip id io im iq il ir) [some (.ref (a 0)), some (.int x), some (.int z), some (.int (nI k))] 4 [] := by
    intro n
    induction n with
    | zero =>
      intro k z hk hz
      have hk : k = im := hk
      subst hk
      refine xiload_3 C dX1_bytesOfChildren_4 ?_
      refine xaload_0 C dX1_bytesOfChildren_5 ?_
      refine xget C 0 f_X1_33 dX1_bytesOfChildren_6 rfl rfl ?_
      refine xicmp_ge C (tgt := 44) dX1_bytesOfChildren_9 (by decide) (fun h9 => ?_) (fun h9 => ?_)
      · skip
        refine xiload_2 C dX1_bytesOfChildren_44 ?_
        exact xiret C dX1_bytesOfChildren_45 (hz) (rfl)
      · skip
        exact absurd (Int32.le_refl _) h9
    | succ n ih =>
      intro k z hk hz
      have hkm : k < im := by omega
      refine xiload_3 C dX1_bytesOfChildren_4 ?_
      refine xaload_0 C dX1_bytesOfChildren_5 ?_
      refine xget C 0 f_X1_33 dX1_bytesOfChildren_6 rfl rfl ?_
      refine xicmp_ge C (tgt := 44) dX1_bytesOfChildren_9 (by decide) (fun h9 => ?_) (fun h9 => ?_)
      · skip
        exact absurd h9 (nI_ge hkm (by omega))
      · skip
        refine xaload_0 C dX1_bytesOfChildren_12 ?_
        refine xget C 0 f_X1_24 dX1_bytesOfChildren_13 rfl rfl ?_
        refine xiload_3 C dX1_bytesOfChildren_16 ?_
        refine xialdN C (k) 5 dX1_bytesOfChildren_17 rfl (by omega) (rfl) (by decide) ?_
        refine xiload_1 C dX1_bytesOfChildren_18 ?_
        refine xicmp_ne C (tgt := 38) dX1_bytesOfChildren_19 (by decide) (fun h19 => ?_) (fun h19 => ?_)
        · skip
          refine xiinc_3 C (nI (k + 1)) dX1_bytesOfChildren_38 (nI_1 k) rfl (by decide) ?_
          refine xgoto C (tgt := 4) dX1_bytesOfChildren_41 (by decide) ?_
          exact ih (k + 1) _ (by omega) (by rw [← hz, bocG, if_neg h19])
        · skip
          refine xiload_2 C dX1_bytesOfChildren_22 ?_
          refine xaload_0 C dX1_bytesOfChildren_23 ?_
          refine xget C 0 f_X1_18 dX1_bytesOfChildren_24 rfl rfl ?_
          refine xiload_3 C dX1_bytesOfChildren_27 ?_
          refine xialdN C (k) 3 dX1_bytesOfChildren_28 rfl (by omega) (rfl) (by decide) ?_
          refine xaload_0 C dX1_bytesOfChildren_29 ?_
          refine xget C 0 f_X1_15 dX1_bytesOfChildren_30 rfl rfl ?_
          refine xiload_3 C dX1_bytesOfChildren_33 ?_
          refine xialdN C (k) 2 dX1_bytesOfChildren_34 rfl (by omega) (rfl) (by decide) ?_
          refine xisub C dX1_bytesOfChildren_35 ?_
          refine xiadd C dX1_bytesOfChildren_36 ?_
          refine xistore_2 C dX1_bytesOfChildren_37 rfl (by decide) ?_
          refine xiinc_3 C (nI (k + 1)) dX1_bytesOfChildren_38 (nI_1 k) rfl (by decide) ?_
          refine xgoto C (tgt := 4) dX1_bytesOfChildren_41 (by decide) ?_
          exact ih (k + 1) _ (by omega) (by rw [← hz, bocG, if_pos h19])
  refine xiconst C (0) dX1_bytesOfChildren_0 (by decide) ?_
  refine xistore_2 C dX1_bytesOfChildren_1 rfl (by decide) ?_
  refine xiconst C (0) dX1_bytesOfChildren_2 (by decide) ?_
  refine xistore_3 C dX1_bytesOfChildren_3 rfl (by decide) ?_
  exact loop im 0 0 (by omega) rfl
set_option maxHeartbeats 4000000 in
set_option maxRecDepth 100000 in
theorem c_X1_innermostAround (l : Launch) (G : va_G) (tc : Nat → ClassId) (a : Nat → Nat) (ik ia ie it ip id io : Nat → Int32) (im iq il : Nat) (ir : Bool) (hm : im ≤ 48) (x : Int32) : kI l yX1_innermostAround (xw yX1_innermostAround cX1_innermostAround 3 (some .int)) 0 G tc [.ref (a 0), .int x] (wI tc a ik ia ie it ip id io im iq il ir) (iaG ia ie x im) (wI tc a ik ia ie it ip id io im iq il ir) := by
  refine kI_of [some (.ref (a 0)), some (.int x), none] 1 (by decide) (Nat.le_of_ble_eq_true rfl) rfl ?_
  intro p e s m args below meth c A C
  have loop : ∀ (n : Nat), n ≤ im → iaG ia ie x n = iaG ia ie x im → xAT p l e (xR 0 0 0) s m args below meth c (xQi below args s G A (iaG ia ie x im) (wI tc a ik ia ie it ip id io im iq il ir)) G A 3 0 0 (wI tc a ik ia ie it ip id io im iq il ir) [some (.ref (a 0)), some (.int x), some (.int (nI n - 1))] 7 [] := by
    intro n
    induction n with
    | zero =>
      intro hk hz
      refine xiload_2 C dX1_innermostAround_7 ?_
      refine xif_lt C (tgt := 39) dX1_innermostAround_8 (by decide) (fun h8 => ?_) (fun h8 => ?_)
      · skip
        refine xiconst C (-1) dX1_innermostAround_39 (by decide) ?_
        exact xiret C dX1_innermostAround_40 (hz) (rfl)
      · skip
        exact absurd (by decide) h8
    | succ n ih =>
      intro hk hz
      rw [nI_pred]
      refine xiload_2 C dX1_innermostAround_7 ?_
      refine xif_lt C (tgt := 39) dX1_innermostAround_8 (by decide) (fun h8 => ?_) (fun h8 => ?_)
      · skip
        exact absurd h8 (nI_pos (by omega))
      · skip
        refine xaload_0 C dX1_innermostAround_11 ?_
        refine xget C 0 f_X1_15 dX1_innermostAround_12 rfl rfl ?_
        refine xiload_2 C dX1_innermostAround_15 ?_
        refine xialdN C (n) 2 dX1_innermostAround_16 rfl (by omega) (rfl) (by decide) ?_
        refine xiload_1 C dX1_innermostAround_17 ?_
        refine xicmp_gt C (tgt := 33) dX1_innermostAround_18 (by decide) (fun h18 => ?_) (fun h18 => ?_)
        · skip
          refine xiinc_2 C (nI n - 1) dX1_innermostAround_33 (i32_m1 _) rfl (by decide) ?_
          refine xgoto C (tgt := 7) dX1_innermostAround_36 (by decide) ?_
          exact ih (by omega) (by rw [← hz, iaG, if_neg (by simp [h18])])
        · skip
          refine xiload_1 C dX1_innermostAround_21 ?_
          refine xaload_0 C dX1_innermostAround_22 ?_
          refine xget C 0 f_X1_18 dX1_innermostAround_23 rfl rfl ?_
          refine xiload_2 C dX1_innermostAround_26 ?_
          refine xialdN C (n) 3 dX1_innermostAround_27 rfl (by omega) (rfl) (by decide) ?_
          refine xicmp_ge C (tgt := 33) dX1_innermostAround_28 (by decide) (fun h28 => ?_) (fun h28 => ?_)
          · skip
            refine xiinc_2 C (nI n - 1) dX1_innermostAround_33 (i32_m1 _) rfl (by decide) ?_
            refine xgoto C (tgt := 7) dX1_innermostAround_36 (by decide) ?_
            exact ih (by omega) (by rw [← hz, iaG, if_neg (by simp [h18, h28])])
          · skip
            refine xiload_2 C dX1_innermostAround_31 ?_
            exact xiret C dX1_innermostAround_32 (by rw [← hz, iaG, if_pos (by simp [h18, h28])]) (rfl)
  refine xaload_0 C dX1_innermostAround_0 ?_
  refine xget C 0 f_X1_33 dX1_innermostAround_1 rfl rfl ?_
  refine xiconst C (1) dX1_innermostAround_4 (by decide) ?_
  refine xisub C dX1_innermostAround_5 ?_
  refine xistore_2 C dX1_innermostAround_6 rfl (by decide) ?_
  exact loop im (Nat.le_refl _) rfl
