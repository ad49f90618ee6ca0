set_option maxHeartbeats 4000000 in
set_option maxRecDepth 100000 in
theorem c_X6_isIn (l : Launch) (G : va_G) (tc : Nat → ClassId) (v x y : Int32) : kI l yX6_isIn (xw yX6_isIn cX6_isIn 3 (some .boolean)) 0 G tc [.int v, .int x, .int y] ([]) (bI (isInB v x y)) ([]) := by
  refine kI_of [some (.int v), some (.int x), some (.int y)] 0 (by decide) (Nat.le_of_ble_eq_true rfl) rfl ?_
  intro p e s m args below meth c A C
  refine xiload_0 C dX6_isIn_0 ?_
  refine xiload_1 C dX6_isIn_1 ?_
  refine xicmp_lt C (tgt := 14) dX6_isIn_2 (by decide) (fun h2 => ?_) (fun h2 => ?_)
  · skip
    refine xiconst C (0) dX6_isIn_14 (by decide) ?_
    exact xzret C dX6_isIn_15 (by first | rfl | exact bI_nar _) (by simp [bI, isInB, *]) (rfl)
  · skip
    refine xiload_0 C dX6_isIn_5 ?_
    refine xiload_2 C dX6_isIn_6 ?_
    refine xicmp_gt C (tgt := 14) dX6_isIn_7 (by decide) (fun h7 => ?_) (fun h7 => ?_)
    · skip
      refine xiconst C (0) dX6_isIn_14 (by decide) ?_
      exact xzret C dX6_isIn_15 (by first | rfl | exact bI_nar _) (by simp [bI, isInB, *]) (rfl)
    · skip
      refine xiconst C (1) dX6_isIn_10 (by decide) ?_
      refine xgoto C (tgt := 15) dX6_isIn_11 (by decide) ?_
      exact xzret C dX6_isIn_15 (by first | rfl | exact bI_nar _) (by simp [bI, isInB, *]) (rfl)
set_option maxHeartbeats 4000000 in
set_option maxRecDepth 100000 in
theorem c_X6_isByte (l : Launch) (G : va_G) (tc : Nat → ClassId) (v : Int32) : kI l yX6_isByte (xw yX6_isByte cX6_isByte 1 (some .boolean)) 1 G tc [.int v] ([]) (bI (txB v)) ([]) := by
  refine kI_of [some (.int v)] 0 (by decide) (Nat.le_of_ble_eq_true rfl) rfl ?_
  intro p e s m args below meth c A C
  refine xiload_0 C dX6_isByte_0 ?_
  refine xbipush C (32) dX6_isByte_1 (by decide) ?_
  refine xbipush C (126) dX6_isByte_3 (by decide) ?_
  refine xcallSi0 C m_X6_isIn k_X6_67 (c_X6_isIn l G tc v 32 126) dX6_isByte_5 ([] : List Nat) rfl rfl rfl (by decide) rfl (Nat.le_of_ble_eq_true rfl) ⟨by decide, by decide⟩ ?_
  exact xzret C dX6_isByte_8 (by first | rfl | exact bI_nar _) (rfl) (rfl)
set_option maxHeartbeats 4000000 in
set_option maxRecDepth 100000 in
theorem c_X6_thrown (l : Launch) (G : va_G) (tc : Nat → ClassId) (a : Nat → Nat) (th : Int32) (n : Nat) (b : Nat → Int32) (ec : Int32) (lt : Bool) (zs : Nat → Nat) (zw : Nat → Int32) (zr zo : Nat → Bool) (zi : Nat → Int32) (i : IS) (mm : Nat) (mp mz un : Nat → Nat) : kI l yX6_thrown (xw yX6_thrown cX6_thrown 1 (some .int)) 0 G tc [.ref (a 0)] (wX tc a (th) (n) (b) (ec) (lt) (zs) (zw) (zr) (zo) (zi) (i) (mm) (mp) (mz) (un)) (th) (wX tc a (th) (n) (b) (ec) (lt) (zs) (zw) (zr) (zo) (zi) (i) (mm) (mp) (mz) (un)) := by
  refine kI_of [some (.ref (a 0))] 0 (by decide) (Nat.le_of_ble_eq_true rfl) rfl ?_
  intro p e s m args below meth c A C
  refine xaload_0 C dX6_thrown_0 ?_
  refine xget C 0 f_X6_64 dX6_thrown_1 rfl rfl ?_
  exact xiret C dX6_thrown_4 (by first | rfl | (simp [*]; done)) (rfl)
set_option maxHeartbeats 4000000 in
set_option maxRecDepth 100000 in
theorem c_X6_no (l : Launch) (G : va_G) (tc : Nat → ClassId) (a : Nat → Nat) (th : Int32) (n : Nat) (b : Nat → Int32) (ec : Int32) (lt : Bool) (zs : Nat → Nat) (zw : Nat → Int32) (zr zo : Nat → Bool) (zi : Nat → Int32) (i : IS) (mm : Nat) (mp mz un : Nat → Nat) (x : Int32) : kI l yX6_no (xw yX6_no cX6_no 2 (some .int)) 0 G tc [.ref (a 0), .int x] (wX tc a (th) (n) (b) (ec) (lt) (zs) (zw) (zr) (zo) (zi) (i) (mm) (mp) (mz) (un)) (0) (wX tc a (x) (n) (b) (ec) (lt) (zs) (zw) (zr) (zo) (zi) (i) (mm) (mp) (mz) (un)) := by
  refine kI_of [some (.ref (a 0)), some (.int x)] 0 (by decide) (Nat.le_of_ble_eq_true rfl) rfl ?_
  intro p e s m args below meth c A C
  refine xaload_0 C dX6_no_0 ?_
  refine xiload_1 C dX6_no_1 ?_
  refine xput C 0 (wX tc a (x) (n) (b) (ec) (lt) (zs) (zw) (zr) (zo) (zi) (i) (mm) (mp) (mz) (un)) fw_X6_64 dX6_no_2 rfl (Nat.le_of_ble_eq_true rfl) rfl rfl rfl ?_
  refine xiconst C (0) dX6_no_5 (by decide) ?_
  exact xiret C dX6_no_6 (by first | rfl | (simp [*]; done)) (rfl)
set_option maxHeartbeats 4000000 in
set_option maxRecDepth 100000 in
theorem c_X6_size (l : Launch) (G : va_G) (tc : Nat → ClassId) (a : Nat → Nat) (th : Int32) (n : Nat) (b : Nat → Int32) (ec : Int32) (lt : Bool) (zs : Nat → Nat) (zw : Nat → Int32) (zr zo : Nat → Bool) (zi : Nat → Int32) (i : IS) (mm : Nat) (mp mz un : Nat → Nat) : kI l yX6_size (xw yX6_size cX6_size 1 (some .int)) 0 G tc [.ref (a 0)] (wX tc a (th) (n) (b) (ec) (lt) (zs) (zw) (zr) (zo) (zi) (i) (mm) (mp) (mz) (un)) (nI n) (wX tc a (0) (n) (b) (ec) (lt) (zs) (zw) (zr) (zo) (zi) (i) (mm) (mp) (mz) (un)) := by
  refine kI_of [some (.ref (a 0))] 0 (by decide) (Nat.le_of_ble_eq_true rfl) rfl ?_
  intro p e s m args below meth c A C
  refine xaload_0 C dX6_size_0 ?_
  refine xiconst C (0) dX6_size_1 (by decide) ?_
  refine xput C 0 (wX tc a (0) (n) (b) (ec) (lt) (zs) (zw) (zr) (zo) (zi) (i) (mm) (mp) (mz) (un)) fw_X6_64 dX6_size_2 rfl (Nat.le_of_ble_eq_true rfl) rfl rfl rfl ?_
  refine xaload_0 C dX6_size_5 ?_
  refine xget C 0 f_X6_81 dX6_size_6 rfl rfl ?_
  exact xiret C dX6_size_9 (by first | rfl | (simp [*]; done)) (rfl)
set_option maxHeartbeats 4000000 in
set_option maxRecDepth 100000 in
theorem c_X6_hasReading (l : Launch) (G : va_G) (tc : Nat → ClassId) (a : Nat → Nat) (th : Int32) (n : Nat) (b : Nat → Int32) (ec : Int32) (lt : Bool) (zs : Nat → Nat) (zw : Nat → Int32) (zr zo : Nat → Bool) (zi : Nat → Int32) (i : IS) (mm : Nat) (mp mz un : Nat → Nat) : kI l yX6_hasReading (xw yX6_hasReading cX6_hasReading 1 (some .boolean)) 0 G tc [.ref (a 0)] (wX tc a (th) (n) (b) (ec) (lt) (zs) (zw) (zr) (zo) (zi) (i) (mm) (mp) (mz) (un)) (bI (iR i)) (wX tc a (0) (n) (b) (ec) (lt) (zs) (zw) (zr) (zo) (zi) (i) (mm) (mp) (mz) (un)) := by
  refine kI_of [some (.ref (a 0))] 0 (by decide) (Nat.le_of_ble_eq_true rfl) rfl ?_
  intro p e s m args below meth c A C
  refine xaload_0 C dX6_hasReading_0 ?_
  refine xiconst C (0) dX6_hasReading_1 (by decide) ?_
  refine xput C 0 (wX tc a (0) (n) (b) (ec) (lt) (zs) (zw) (zr) (zo) (zi) (i) (mm) (mp) (mz) (un)) fw_X6_64 dX6_hasReading_2 rfl (Nat.le_of_ble_eq_true rfl) rfl rfl rfl ?_
  refine xaload_0 C dX6_hasReading_5 ?_
  refine xget C 0 f_X6_84 dX6_hasReading_6 rfl rfl ?_
  exact xzret C dX6_hasReading_9 (by first | rfl | exact bI_nar _) (by first | rfl | (simp [*]; done)) (rfl)
set_option maxHeartbeats 4000000 in
set_option maxRecDepth 100000 in
theorem c_X6_setLenient (l : Launch) (G : va_G) (tc : Nat → ClassId) (a : Nat → Nat) (th : Int32) (n : Nat) (b : Nat → Int32) (ec : Int32) (lt : Bool) (zs : Nat → Nat) (zw : Nat → Int32) (zr zo : Nat → Bool) (zi : Nat → Int32) (i : IS) (mm : Nat) (mp mz un : Nat → Nat) (v : Bool) : kI l yX6_setLenient (xw yX6_setLenient cX6_setLenient 3 (some .boolean)) 0 G tc [.ref (a 0), .int (bI v)] (wX tc a (th) (n) (b) (ec) (lt) (zs) (zw) (zr) (zo) (zi) (i) (mm) (mp) (mz) (un)) (bI lt) (wX tc a (0) (n) (b) (ec) (v) (zs) (zw) (zr) (zo) (zi) (fgI i) (mm) (mp) (mz) (un)) := by
  refine kI_of [some (.ref (a 0)), some (.int (bI v)), none] 1 (by decide) (Nat.le_of_ble_eq_true rfl) rfl ?_
  intro p e s m args below meth c A C
  refine xaload_0 C dX6_setLenient_0 ?_
  refine xiconst C (0) dX6_setLenient_1 (by decide) ?_
  refine xput C 0 (wX tc a (0) (n) (b) (ec) (lt) (zs) (zw) (zr) (zo) (zi) (i) (mm) (mp) (mz) (un)) fw_X6_64 dX6_setLenient_2 rfl (Nat.le_of_ble_eq_true rfl) rfl rfl rfl ?_
  refine xaload_0 C dX6_setLenient_5 ?_
  refine xget C 0 f_X6_17 dX6_setLenient_6 rfl rfl ?_
  refine xistore_2 C dX6_setLenient_9 rfl (by decide) ?_
  refine xaload_0 C dX6_setLenient_10 ?_
  refine xiload_1 C dX6_setLenient_11 ?_
  refine xput C 0 (wX tc a (0) (n) (b) (ec) (v) (zs) (zw) (zr) (zo) (zi) (i) (mm) (mp) (mz) (un)) fw_X6_17 dX6_setLenient_12 rfl (Nat.le_of_ble_eq_true rfl) (bI_nar _) (bI_fit _) rfl ?_
  refine xaload_0 C dX6_setLenient_15 ?_
  refine xiconst C (0) dX6_setLenient_16 (by decide) ?_
  refine xput C 0 (wX tc a (0) (n) (b) (ec) (v) (zs) (zw) (zr) (zo) (zi) (fgI i) (mm) (mp) (mz) (un)) fw_X6_84 dX6_setLenient_17 rfl (Nat.le_of_ble_eq_true rfl) rfl rfl rfl ?_
  refine xiload_2 C dX6_setLenient_20 ?_
  exact xzret C dX6_setLenient_21 (by first | rfl | exact bI_nar _) (by first | rfl | (simp [*]; done)) (rfl)
set_option maxHeartbeats 4000000 in
set_option maxRecDepth 100000 in
theorem c_X6_cut (l : Launch) (G : va_G) (tc : Nat → ClassId) (a : Nat → Nat) (th : Int32) (n : Nat) (b : Nat → Int32) (ec : Int32) (lt : Bool) (zs : Nat → Nat) (zw : Nat → Int32) (zr zo : Nat → Bool) (zi : Nat → Int32) (i : IS) (mm : Nat) (mp mz un : Nat → Nat) (hn : n ≤ 48) (x : Int32) : kI l yX6_cut (xw yX6_cut cX6_cut 2 (some .int)) 1 G tc [.ref (a 0), .int x] (wX tc a (th) (n) (b) (ec) (lt) (zs) (zw) (zr) (zo) (zi) (i) (mm) (mp) (mz) (un)) (if isInB x 0 (nI n) = true then nI (n - x.toNatClampNeg) else 0) (wX tc a (if isInB x 0 (nI n) = true then 0 else 1) (if isInB x 0 (nI n) = true then n - x.toNatClampNeg else n) (b) (ec) (lt) (zs) (zw) (zr) (zo) (zi) (if isInB x 0 (nI n) = true then fgI i else i) (mm) (mp) (mz) (un)) := by
  refine kI_of [some (.ref (a 0)), some (.int x)] 0 (by decide) (Nat.le_of_ble_eq_true rfl) rfl ?_
  intro p e s m args below meth c A C
  refine xaload_0 C dX6_cut_0 ?_
  refine xiconst C (0) dX6_cut_1 (by decide) ?_
  refine xput C 0 (wX tc a (0) (n) (b) (ec) (lt) (zs) (zw) (zr) (zo) (zi) (i) (mm) (mp) (mz) (un)) fw_X6_64 dX6_cut_2 rfl (Nat.le_of_ble_eq_true rfl) rfl rfl rfl ?_
  refine xiload_1 C dX6_cut_5 ?_
  refine xiconst C (0) dX6_cut_6 (by decide) ?_
  refine xaload_0 C dX6_cut_7 ?_
  refine xget C 0 f_X6_81 dX6_cut_8 rfl rfl ?_
  refine xcallSi0 C m_X6_isIn k_X6_67 (c_X6_isIn l G tc x 0 (nI n)) dX6_cut_11 ([] : List Nat) rfl rfl rfl (by decide) rfl (Nat.le_of_ble_eq_true rfl) ⟨by decide, by decide⟩ ?_
  refine xif_ne C (tgt := 23) dX6_cut_14 (by decide) (fun h14 => ?_) (fun h14 => ?_)
  · skip
    have h14 := bI1 h14
    have hq := isIn_n h14
    have hif : ∀ {α : Type} (u v : α), (if isInB x 0 (nI n) = true then u else v) = u := fun u v => if_pos h14
    refine xaload_0 C dX6_cut_23 ?_
    refine xdup C dX6_cut_24 rfl ?_
    refine xget C 0 f_X6_81 dX6_cut_25 rfl rfl ?_
    refine xiload_1 C dX6_cut_28 ?_
    refine xisub C dX6_cut_29 ?_
    refine xtop (w := .int (nI (n - x.toNatClampNeg))) (congrArg Value.int (cut_sub hq.1 hq.2 hn)) ?_
    refine xput C 0 (wX tc a (0) (n - x.toNatClampNeg) (b) (ec) (lt) (zs) (zw) (zr) (zo) (zi) (i) (mm) (mp) (mz) (un)) fw_X6_81 dX6_cut_30 rfl (Nat.le_of_ble_eq_true rfl) rfl rfl rfl ?_
    refine xaload_0 C dX6_cut_33 ?_
    refine xiconst C (0) dX6_cut_34 (by decide) ?_
    refine xput C 0 (wX tc a (0) (n - x.toNatClampNeg) (b) (ec) (lt) (zs) (zw) (zr) (zo) (zi) (fgI i) (mm) (mp) (mz) (un)) fw_X6_84 dX6_cut_35 rfl (Nat.le_of_ble_eq_true rfl) rfl rfl rfl ?_
    refine xaload_0 C dX6_cut_38 ?_
    refine xget C 0 f_X6_81 dX6_cut_39 rfl rfl ?_
    exact xiret C dX6_cut_42 (by rw [hif]) (by rw [hif, hif, hif])
  · skip
    have h14 := bI0 h14
    have hif : ∀ {α : Type} (u v : α), (if isInB x 0 (nI n) = true then u else v) = v := fun u v => if_neg (by rw [h14]; exact Bool.false_ne_true)
    refine xaload_0 C dX6_cut_17 ?_
    refine xiconst C (1) dX6_cut_18 (by decide) ?_
    refine xcallViA C m_X6_no k_X6_77 (c_X6_no l G tc a (0) (n) (b) (ec) (lt) (zs) (zw) (zr) (zo) (zi) (i) (mm) (mp) (mz) (un) 1) dX6_cut_19 0 rfl rfl rfl (by decide) rfl (Nat.le_of_ble_eq_true rfl) ⟨by decide, by decide⟩ ?_
    exact xiret C dX6_cut_22 (by rw [hif]) (by rw [hif, hif, hif])
set_option maxHeartbeats 4000000 in
set_option maxRecDepth 100000 in
theorem c_X6_byteAt (l : Launch) (G : va_G) (tc : Nat → ClassId) (a : Nat → Nat) (th : Int32) (n : Nat) (b : Nat → Int32) (ec : Int32) (lt : Bool) (zs : Nat → Nat) (zw : Nat → Int32) (zr zo : Nat → Bool) (zi : Nat → Int32) (i : IS) (mm : Nat) (mp mz un : Nat → Nat) (hn : n ≤ 48) (x : Int32) : kI l yX6_byteAt (xw yX6_byteAt cX6_byteAt 2 (some .int)) 1 G tc [.ref (a 0), .int x] (wX tc a (th) (n) (b) (ec) (lt) (zs) (zw) (zr) (zo) (zi) (i) (mm) (mp) (mz) (un)) (if isInB x 0 (nI n - 1) = true then b x.toNatClampNeg else 0) (wX tc a (if isInB x 0 (nI n - 1) = true then 0 else 1) (n) (b) (ec) (lt) (zs) (zw) (zr) (zo) (zi) (i) (mm) (mp) (mz) (un)) := by
  refine kI_of [some (.ref (a 0)), some (.int x)] 0 (by decide) (Nat.le_of_ble_eq_true rfl) rfl ?_
  intro p e s m args below meth c A C
  refine xaload_0 C dX6_byteAt_0 ?_
  refine xiconst C (0) dX6_byteAt_1 (by decide) ?_
  refine xput C 0 (wX tc a (0) (n) (b) (ec) (lt) (zs) (zw) (zr) (zo) (zi) (i) (mm) (mp) (mz) (un)) fw_X6_64 dX6_byteAt_2 rfl (Nat.le_of_ble_eq_true rfl) rfl rfl rfl ?_
  refine xiload_1 C dX6_byteAt_5 ?_
  refine xiconst C (0) dX6_byteAt_6 (by decide) ?_
  refine xaload_0 C dX6_byteAt_7 ?_
  refine xget C 0 f_X6_81 dX6_byteAt_8 rfl rfl ?_
  refine xiconst C (1) dX6_byteAt_11 (by decide) ?_
  refine xisub C dX6_byteAt_12 ?_
  refine xcallSi0 C m_X6_isIn k_X6_67 (c_X6_isIn l G tc x 0 _) dX6_byteAt_13 ([] : List Nat) rfl rfl rfl (by decide) rfl (Nat.le_of_ble_eq_true rfl) ⟨by decide, by decide⟩ ?_
  refine xif_eq C (tgt := 28) dX6_byteAt_16 (by decide) (fun h16 => ?_) (fun h16 => ?_)
  · skip
    have h16 := bI0 h16
    have hif : ∀ {α : Type} (u v : α), (if isInB x 0 (nI n - 1) = true then u else v) = v := fun u v => if_neg (by rw [h16]; exact Bool.false_ne_true)
    refine xaload_0 C dX6_byteAt_28 ?_
    refine xiconst C (1) dX6_byteAt_29 (by decide) ?_
    refine xcallViA C m_X6_no k_X6_77 (c_X6_no l G tc a (0) (n) (b) (ec) (lt) (zs) (zw) (zr) (zo) (zi) (i) (mm) (mp) (mz) (un) 1) dX6_byteAt_30 0 rfl rfl rfl (by decide) rfl (Nat.le_of_ble_eq_true rfl) ⟨by decide, by decide⟩ ?_
    exact xiret C dX6_byteAt_33 (by rw [hif]) (by rw [hif])
  · skip
    have h16 := bI1 h16
    have hif : ∀ {α : Type} (u v : α), (if isInB x 0 (nI n - 1) = true then u else v) = u := fun u v => if_pos h16
    refine xaload_0 C dX6_byteAt_19 ?_
    refine xget C 0 f_X6_9 dX6_byteAt_20 rfl rfl ?_
    refine xiload_1 C dX6_byteAt_23 ?_
    refine xiald C 1 dX6_byteAt_24 rfl (isIn_p h16 hn) ?_
    refine xgoto C (tgt := 33) dX6_byteAt_25 (by decide) ?_
    exact xiret C dX6_byteAt_33 (by rw [hif]) (by rw [hif])
set_option maxHeartbeats 4000000 in
set_option maxRecDepth 100000 in
theorem c_X6_set (l : Launch) (G : va_G) (tc : Nat → ClassId) (a : Nat → Nat) (th : Int32) (n : Nat) (b : Nat → Int32) (ec : Int32) (lt : Bool) (zs : Nat → Nat) (zw : Nat → Int32) (zr zo : Nat → Bool) (zi : Nat → Int32) (i : IS) (mm : Nat) (mp mz un : Nat → Nat) (hn : n ≤ 48) (x y : Int32) : kI l yX6_set (xw yX6_set cX6_set 4 (some .int)) 2 G tc [.ref (a 0), .int x, .int y] (wX tc a (th) (n) (b) (ec) (lt) (zs) (zw) (zr) (zo) (zi) (i) (mm) (mp) (mz) (un)) (if isInB x 0 (nI n - 1) = true then (if txB y = true then b x.toNatClampNeg else 0) else 0) (wX tc a (if isInB x 0 (nI n - 1) = true then (if txB y = true then 0 else 2) else 1) (n) (if isInB x 0 (nI n - 1) = true then (if txB y = true then upd b x.toNatClampNeg y else b) else b) (ec) (lt) (zs) (zw) (zr) (zo) (zi) (if isInB x 0 (nI n - 1) = true then (if txB y = true then fgI i else i) else i) (mm) (mp) (mz) (un)) := by
  refine kI_of [some (.ref (a 0)), some (.int x), some (.int y), none] 1 (by decide) (Nat.le_of_ble_eq_true rfl) rfl ?_
  intro p e s m args below meth c A C
  refine xaload_0 C dX6_set_0 ?_
  refine xiconst C (0) dX6_set_1 (by decide) ?_
  refine xput C 0 (wX tc a (0) (n) (b) (ec) (lt) (zs) (zw) (zr) (zo) (zi) (i) (mm) (mp) (mz) (un)) fw_X6_64 dX6_set_2 rfl (Nat.le_of_ble_eq_true rfl) rfl rfl rfl ?_
  refine xiload_1 C dX6_set_5 ?_
  refine xiconst C (0) dX6_set_6 (by decide) ?_
  refine xaload_0 C dX6_set_7 ?_
  refine xget C 0 f_X6_81 dX6_set_8 rfl rfl ?_
  refine xiconst C (1) dX6_set_11 (by decide) ?_
  refine xisub C dX6_set_12 ?_
  refine xcallSi0 C m_X6_isIn k_X6_67 (c_X6_isIn l G tc x 0 _) dX6_set_13 ([] : List Nat) rfl rfl rfl (by decide) rfl (Nat.le_of_ble_eq_true rfl) ⟨by decide, by decide⟩ ?_
  refine xif_ne C (tgt := 25) dX6_set_16 (by decide) (fun h16 => ?_) (fun h16 => ?_)
  · skip
    have h16 := bI1 h16
    refine xiload_2 C dX6_set_25 ?_
    refine xcallSi0 C m_X6_isByte k_X6_73 (c_X6_isByte l G tc y) dX6_set_26 ([] : List Nat) rfl rfl rfl (by decide) rfl (Nat.le_of_ble_eq_true rfl) ⟨by decide, by decide⟩ ?_
    refine xif_ne C (tgt := 38) dX6_set_29 (by decide) (fun h29 => ?_) (fun h29 => ?_)
    · skip
      have h29 := bI1 h29
      refine xaload_0 C dX6_set_38 ?_
      refine xget C 0 f_X6_9 dX6_set_39 rfl rfl ?_
      refine xiload_1 C dX6_set_42 ?_
      refine xiald C 1 dX6_set_43 rfl (isIn_p h16 hn) ?_
      refine xistore_3 C dX6_set_44 rfl (by decide) ?_
      refine xaload_0 C dX6_set_45 ?_
      refine xget C 0 f_X6_9 dX6_set_46 rfl rfl ?_
      refine xiload_1 C dX6_set_49 ?_
      refine xiload_2 C dX6_set_50 ?_
      refine xiast C 1 (wX tc a (0) (n) (upd b x.toNatClampNeg y) (ec) (lt) (zs) (zw) (zr) (zo) (zi) (i) (mm) (mp) (mz) (un)) dX6_set_51 rfl (isIn_p h16 hn) rfl ?_
      refine xaload_0 C dX6_set_52 ?_
      refine xiconst C (0) dX6_set_53 (by decide) ?_
      refine xput C 0 (wX tc a (0) (n) (upd b x.toNatClampNeg y) (ec) (lt) (zs) (zw) (zr) (zo) (zi) (fgI i) (mm) (mp) (mz) (un)) fw_X6_84 dX6_set_54 rfl (Nat.le_of_ble_eq_true rfl) rfl rfl rfl ?_
      refine xiload_3 C dX6_set_57 ?_
      exact xiret C dX6_set_58 (by simp [h16, h29]) (by simp [h16, h29])
    · skip
      have h29 := bI0 h29
      refine xaload_0 C dX6_set_32 ?_
      refine xiconst C (2) dX6_set_33 (by decide) ?_
      refine xcallViA C m_X6_no k_X6_77 (c_X6_no l G tc a (0) (n) (b) (ec) (lt) (zs) (zw) (zr) (zo) (zi) (i) (mm) (mp) (mz) (un) 2) dX6_set_34 0 rfl rfl rfl (by decide) rfl (Nat.le_of_ble_eq_true rfl) ⟨by decide, by decide⟩ ?_
      exact xiret C dX6_set_37 (by simp [h16, h29]) (by simp [h16, h29])
  · skip
    have h16 := bI0 h16
    refine xaload_0 C dX6_set_19 ?_
    refine xiconst C (1) dX6_set_20 (by decide) ?_
    refine xcallViA C m_X6_no k_X6_77 (c_X6_no l G tc a (0) (n) (b) (ec) (lt) (zs) (zw) (zr) (zo) (zi) (i) (mm) (mp) (mz) (un) 1) dX6_set_21 0 rfl rfl rfl (by decide) rfl (Nat.le_of_ble_eq_true rfl) ⟨by decide, by decide⟩ ?_
    exact xiret C dX6_set_24 (by simp [h16]) (by simp [h16])
set_option maxHeartbeats 4000000 in
set_option maxRecDepth 100000 in
theorem c_X6_setEscape (l : Launch) (G : va_G) (tc : Nat → ClassId) (a : Nat → Nat) (th : Int32) (n : Nat) (b : Nat → Int32) (ec : Int32) (lt : Bool) (zs : Nat → Nat) (zw : Nat → Int32) (zr zo : Nat → Bool) (zi : Nat → Int32) (i : IS) (mm : Nat) (mp mz un : Nat → Nat) (x : Int32) : kI l yX6_setEscape (xw yX6_setEscape cX6_setEscape 3 (some .int)) 2 G tc [.ref (a 0), .int x] (wX tc a (th) (n) (b) (ec) (lt) (zs) (zw) (zr) (zo) (zi) (i) (mm) (mp) (mz) (un)) (if (decide (x = -1) || txB x) = true then ec else 0) (wX tc a (if (decide (x = -1) || txB x) = true then 0 else 1) (n) (b) (if (decide (x = -1) || txB x) = true then x else ec) (lt) (zs) (zw) (zr) (zo) (zi) (if (decide (x = -1) || txB x) = true then fgI i else i) (mm) (mp) (mz) (un)) := by
  refine kI_of [some (.ref (a 0)), some (.int x), none] 1 (by decide) (Nat.le_of_ble_eq_true rfl) rfl ?_
  intro p e s m args below meth c A C
  refine xaload_0 C dX6_setEscape_0 ?_
  refine xiconst C (0) dX6_setEscape_1 (by decide) ?_
  refine xput C 0 (wX tc a (0) (n) (b) (ec) (lt) (zs) (zw) (zr) (zo) (zi) (i) (mm) (mp) (mz) (un)) fw_X6_64 dX6_setEscape_2 rfl (Nat.le_of_ble_eq_true rfl) rfl rfl rfl ?_
  refine xiload_1 C dX6_setEscape_5 ?_
  refine xiconst C (-1) dX6_setEscape_6 (by decide) ?_
  refine xicmp_eq C (tgt := 23) dX6_setEscape_7 (by decide) (fun h7 => ?_) (fun h7 => ?_)
  · skip
    refine xaload_0 C dX6_setEscape_23 ?_
    refine xget C 0 f_X6_13 dX6_setEscape_24 rfl rfl ?_
    refine xistore_2 C dX6_setEscape_27 rfl (by decide) ?_
    refine xaload_0 C dX6_setEscape_28 ?_
    refine xiload_1 C dX6_setEscape_29 ?_
    refine xput C 0 (wX tc a (0) (n) (b) (x) (lt) (zs) (zw) (zr) (zo) (zi) (i) (mm) (mp) (mz) (un)) fw_X6_13 dX6_setEscape_30 rfl (Nat.le_of_ble_eq_true rfl) rfl rfl rfl ?_
    refine xaload_0 C dX6_setEscape_33 ?_
    refine xiconst C (0) dX6_setEscape_34 (by decide) ?_
    refine xput C 0 (wX tc a (0) (n) (b) (x) (lt) (zs) (zw) (zr) (zo) (zi) (fgI i) (mm) (mp) (mz) (un)) fw_X6_84 dX6_setEscape_35 rfl (Nat.le_of_ble_eq_true rfl) rfl rfl rfl ?_
    refine xiload_2 C dX6_setEscape_38 ?_
    exact xiret C dX6_setEscape_39 (by simp [h7]) (by simp [h7])
  · skip
    refine xiload_1 C dX6_setEscape_10 ?_
    refine xcallSi0 C m_X6_isByte k_X6_73 (c_X6_isByte l G tc x) dX6_setEscape_11 ([] : List Nat) rfl rfl rfl (by decide) rfl (Nat.le_of_ble_eq_true rfl) ⟨by decide, by decide⟩ ?_
    refine xif_ne C (tgt := 23) dX6_setEscape_14 (by decide) (fun h14 => ?_) (fun h14 => ?_)
    · skip
      have h14 := bI1 h14
      refine xaload_0 C dX6_setEscape_23 ?_
      refine xget C 0 f_X6_13 dX6_setEscape_24 rfl rfl ?_
      refine xistore_2 C dX6_setEscape_27 rfl (by decide) ?_
      refine xaload_0 C dX6_setEscape_28 ?_
      refine xiload_1 C dX6_setEscape_29 ?_
      refine xput C 0 (wX tc a (0) (n) (b) (x) (lt) (zs) (zw) (zr) (zo) (zi) (i) (mm) (mp) (mz) (un)) fw_X6_13 dX6_setEscape_30 rfl (Nat.le_of_ble_eq_true rfl) rfl rfl rfl ?_
      refine xaload_0 C dX6_setEscape_33 ?_
      refine xiconst C (0) dX6_setEscape_34 (by decide) ?_
      refine xput C 0 (wX tc a (0) (n) (b) (x) (lt) (zs) (zw) (zr) (zo) (zi) (fgI i) (mm) (mp) (mz) (un)) fw_X6_84 dX6_setEscape_35 rfl (Nat.le_of_ble_eq_true rfl) rfl rfl rfl ?_
      refine xiload_2 C dX6_setEscape_38 ?_
      exact xiret C dX6_setEscape_39 (by simp [h7, h14]) (by simp [h7, h14])
    · skip
      have h14 := bI0 h14
      refine xaload_0 C dX6_setEscape_17 ?_
      refine xiconst C (1) dX6_setEscape_18 (by decide) ?_
      refine xcallViA C m_X6_no k_X6_77 (c_X6_no l G tc a (0) (n) (b) (ec) (lt) (zs) (zw) (zr) (zo) (zi) (i) (mm) (mp) (mz) (un) 1) dX6_setEscape_19 0 rfl rfl rfl (by decide) rfl (Nat.le_of_ble_eq_true rfl) ⟨by decide, by decide⟩ ?_
      exact xiret C dX6_setEscape_22 (by simp [h7, h14]) (by simp [h7, h14])
set_option maxHeartbeats 4000000 in
set_option maxRecDepth 100000 in
theorem c_X6_isComplete (l : Launch) (G : va_G) (tc : Nat → ClassId) (a : Nat → Nat) (th : Int32) (n : Nat) (b : Nat → Int32) (ec : Int32) (lt : Bool) (zs : Nat → Nat) (zw : Nat → Int32) (zr zo : Nat → Bool) (zi : Nat → Int32) (i : IS) (mm : Nat) (mp mz un : Nat → Nat) (hz : ∀ w, zs w ≤ 3) (k : Nat) (hk6 : k < 6) : kI l yX6_isComplete (xw yX6_isComplete cX6_isComplete 2 (some .boolean)) 0 G tc [.ref (a 0), .int (nI k)] (wX tc a (th) (n) (b) (ec) (lt) (zs) (zw) (zr) (zo) (zi) (i) (mm) (mp) (mz) (un)) (bI (cplM zs k)) (wX tc a (th) (n) (b) (ec) (lt) (zs) (zw) (zr) (zo) (zi) (i) (mm) (mp) (mz) (un)) := by
  refine kI_of [some (.ref (a 0)), some (.int (nI k))] 0 (by decide) (Nat.le_of_ble_eq_true rfl) rfl ?_
  intro p e s m args below meth c A C
  refine xaload_0 C dX6_isComplete_0 ?_
  refine xget C 0 f_X6_21 dX6_isComplete_1 rfl rfl ?_
  refine xiload_1 C dX6_isComplete_4 ?_
  refine xialdN C (k) 2 dX6_isComplete_5 rfl (by omega) (rfl) (by decide) ?_
  refine xif_le C (tgt := 25) dX6_isComplete_6 (by decide) (fun h6 => ?_) (fun h6 => ?_)
  · skip
    have h6 := nI_le0 h6 (by have := hz k; omega)
    refine xiconst C (0) dX6_isComplete_25 (by decide) ?_
    exact xzret C dX6_isComplete_26 (by first | rfl | exact bI_nar _) (by simp [bI, cplM, *]) (rfl)
  · skip
    have h6 := nI_nle0 h6
    refine xaload_0 C dX6_isComplete_9 ?_
    refine xget C 0 f_X6_21 dX6_isComplete_10 rfl rfl ?_
    refine xbipush C (nI 6) dX6_isComplete_13 (by decide) ?_
    refine xiload_1 C dX6_isComplete_15 ?_
    refine xiadd C dX6_isComplete_16 ?_
    refine xialdN C (6 + k) 2 dX6_isComplete_17 rfl (by omega) (nI_add 6 k) (by decide) ?_
    refine xif_le C (tgt := 25) dX6_isComplete_18 (by decide) (fun h18 => ?_) (fun h18 => ?_)
    · skip
      have h18 := nI_le0 h18 (by have := hz (6 + k); omega)
      refine xiconst C (0) dX6_isComplete_25 (by decide) ?_
      exact xzret C dX6_isComplete_26 (by first | rfl | exact bI_nar _) (by simp [bI, cplM, *]) (rfl)
    · skip
      have h18 := nI_nle0 h18
      refine xiconst C (1) dX6_isComplete_21 (by decide) ?_
      refine xgoto C (tgt := 26) dX6_isComplete_22 (by decide) ?_
      exact xzret C dX6_isComplete_26 (by first | rfl | exact bI_nar _) (by simp [bI, cplM, *]) (rfl)
set_option maxHeartbeats 4000000 in
set_option maxRecDepth 100000 in
theorem c_X6_setKind (l : Launch) (G : va_G) (tc : Nat → ClassId) (a : Nat → Nat) (th : Int32) (n : Nat) (b : Nat → Int32) (ec : Int32) (lt : Bool) (zs : Nat → Nat) (zw : Nat → Int32) (zr zo : Nat → Bool) (zi : Nat → Int32) (i : IS) (mm : Nat) (mp mz un : Nat → Nat) (x : Int32) (v1 v2 : Bool) (y : Int32) : kI l yX6_setKind (xw yX6_setKind cX6_setKind 6 (some .int)) 1 G tc [.ref (a 0), .int x, .int (bI v1), .int (bI v2), .int y] (wX tc a (th) (n) (b) (ec) (lt) (zs) (zw) (zr) (zo) (zi) (i) (mm) (mp) (mz) (un)) (if inB6 x = true then (if isInB y 0 63 = true then zi x.toNatClampNeg else 0) else 0) (wX tc a (if inB6 x = true then (if isInB y 0 63 = true then 0 else 2) else 1) (n) (b) (ec) (lt) (zs) (zw) (if inB6 x = true then (if isInB y 0 63 = true then updB zr x.toNatClampNeg v1 else zr) else zr) (if inB6 x = true then (if isInB y 0 63 = true then updB zo x.toNatClampNeg v2 else zo) else zo) (if inB6 x = true then (if isInB y 0 63 = true then upd zi x.toNatClampNeg y else zi) else zi) (if inB6 x = true then (if isInB y 0 63 = true then fgI i else i) else i) (mm) (mp) (mz) (un)) := by
  refine kI_of [some (.ref (a 0)), some (.int x), some (.int (bI v1)), some (.int (bI v2)), some (.int y), none] 1 (by decide) (Nat.le_of_ble_eq_true rfl) rfl ?_
  intro p e s m args below meth c A C
  refine xaload_0 C dX6_setKind_0 ?_
  refine xiconst C (0) dX6_setKind_1 (by decide) ?_
  refine xput C 0 (wX tc a (0) (n) (b) (ec) (lt) (zs) (zw) (zr) (zo) (zi) (i) (mm) (mp) (mz) (un)) fw_X6_64 dX6_setKind_2 rfl (Nat.le_of_ble_eq_true rfl) rfl rfl rfl ?_
  refine xiload_1 C dX6_setKind_5 ?_
  refine xiconst C (0) dX6_setKind_6 (by decide) ?_
  refine xiconst C (5) dX6_setKind_7 (by decide) ?_
  refine xcallSi0 C m_X6_isIn k_X6_67 (c_X6_isIn l G tc x 0 5) dX6_setKind_8 ([] : List Nat) rfl rfl rfl (by decide) rfl (Nat.le_of_ble_eq_true rfl) ⟨by decide, by decide⟩ ?_
  refine xif_ne C (tgt := 20) dX6_setKind_11 (by decide) (fun h11 => ?_) (fun h11 => ?_)
  · skip
    have h11 := bI1 h11
    have hx6 := inB6_in h11
    obtain ⟨j, hj, hxj⟩ := vp_in_of hx6 (by decide)
    have hxc : x.toNatClampNeg = j := by rw [hxj]; exact nI_clamp (by omega)
    refine xiload_4 C dX6_setKind_20 ?_
    refine xiconst C (0) dX6_setKind_22 (by decide) ?_
    refine xbipush C (63) dX6_setKind_23 (by decide) ?_
    refine xcallSi0 C m_X6_isIn k_X6_67 (c_X6_isIn l G tc y 0 63) dX6_setKind_25 ([] : List Nat) rfl rfl rfl (by decide) rfl (Nat.le_of_ble_eq_true rfl) ⟨by decide, by decide⟩ ?_
    refine xif_ne C (tgt := 37) dX6_setKind_28 (by decide) (fun h28 => ?_) (fun h28 => ?_)
    · skip
      have h28 := bI1 h28
      refine xaload_0 C dX6_setKind_37 ?_
      refine xget C 0 f_X6_34 dX6_setKind_38 rfl rfl ?_
      refine xiload_1 C dX6_setKind_41 ?_
      refine xiald C 6 dX6_setKind_42 rfl (hx6) ?_
      refine xistore_5 C dX6_setKind_43 rfl (by decide) ?_
      refine xaload_0 C dX6_setKind_45 ?_
      refine xget C 0 f_X6_27 dX6_setKind_46 rfl rfl ?_
      refine xiload_1 C dX6_setKind_49 ?_
      refine xiload_2 C dX6_setKind_50 ?_
      refine xzastN C (x.toNatClampNeg) 4 (wX tc a (0) (n) (b) (ec) (lt) (zs) (zw) (updB zr x.toNatClampNeg v1) (zo) (zi) (i) (mm) (mp) (mz) (un)) dX6_setKind_51 rfl (by rw [hxc]; exact hj) (hxj.trans (congrArg nI hxc.symm)) (by decide) (by rw [updB_eq]; rfl) ?_
      refine xaload_0 C dX6_setKind_52 ?_
      refine xget C 0 f_X6_31 dX6_setKind_53 rfl rfl ?_
      refine xiload_1 C dX6_setKind_56 ?_
      refine xiload_3 C dX6_setKind_57 ?_
      refine xzastN C (x.toNatClampNeg) 5 (wX tc a (0) (n) (b) (ec) (lt) (zs) (zw) (updB zr x.toNatClampNeg v1) (updB zo x.toNatClampNeg v2) (zi) (i) (mm) (mp) (mz) (un)) dX6_setKind_58 rfl (by rw [hxc]; exact hj) (hxj.trans (congrArg nI hxc.symm)) (by decide) (by rw [updB_eq]; rfl) ?_
      refine xaload_0 C dX6_setKind_59 ?_
      refine xget C 0 f_X6_34 dX6_setKind_60 rfl rfl ?_
      refine xiload_1 C dX6_setKind_63 ?_
      refine xiload_4 C dX6_setKind_64 ?_
      refine xiast C 6 (wX tc a (0) (n) (b) (ec) (lt) (zs) (zw) (updB zr x.toNatClampNeg v1) (updB zo x.toNatClampNeg v2) (upd zi x.toNatClampNeg y) (i) (mm) (mp) (mz) (un)) dX6_setKind_66 rfl (hx6) rfl ?_
      refine xaload_0 C dX6_setKind_67 ?_
      refine xiconst C (0) dX6_setKind_68 (by decide) ?_
      refine xput C 0 (wX tc a (0) (n) (b) (ec) (lt) (zs) (zw) (updB zr x.toNatClampNeg v1) (updB zo x.toNatClampNeg v2) (upd zi x.toNatClampNeg y) (fgI i) (mm) (mp) (mz) (un)) fw_X6_84 dX6_setKind_69 rfl (Nat.le_of_ble_eq_true rfl) rfl rfl rfl ?_
      refine xiload_5 C dX6_setKind_72 ?_
      exact xiret C dX6_setKind_74 (by simp [inB6, h11, h28]) (by simp [inB6, h11, h28])
    · skip
      have h28 := bI0 h28
      refine xaload_0 C dX6_setKind_31 ?_
      refine xiconst C (2) dX6_setKind_32 (by decide) ?_
      refine xcallViA C m_X6_no k_X6_77 (c_X6_no l G tc a (0) (n) (b) (ec) (lt) (zs) (zw) (zr) (zo) (zi) (i) (mm) (mp) (mz) (un) 2) dX6_setKind_33 0 rfl rfl rfl (by decide) rfl (Nat.le_of_ble_eq_true rfl) ⟨by decide, by decide⟩ ?_
      exact xiret C dX6_setKind_36 (by simp [inB6, h11, h28]) (by simp [inB6, h11, h28])
  · skip
    have h11 := bI0 h11
    refine xaload_0 C dX6_setKind_14 ?_
    refine xiconst C (1) dX6_setKind_15 (by decide) ?_
    refine xcallViA C m_X6_no k_X6_77 (c_X6_no l G tc a (0) (n) (b) (ec) (lt) (zs) (zw) (zr) (zo) (zi) (i) (mm) (mp) (mz) (un) 1) dX6_setKind_16 0 rfl rfl rfl (by decide) rfl (Nat.le_of_ble_eq_true rfl) ⟨by decide, by decide⟩ ?_
    exact xiret C dX6_setKind_19 (by simp [inB6, h11]) (by simp [inB6, h11])
set_option maxHeartbeats 4000000 in
set_option maxRecDepth 100000 in
theorem c_X6_asks (l : Launch) (G : va_G) (tc : Nat → ClassId) (a : Nat → Nat) (th : Int32) (n : Nat) (b : Nat → Int32) (ec : Int32) (lt : Bool) (zs : Nat → Nat) (zw : Nat → Int32) (zr zo : Nat → Bool) (zi : Nat → Int32) (i : IS) (mm : Nat) (mp mz un : Nat → Nat) (x y : Int32) : kI l yX6_asks (xw yX6_asks cX6_asks 3 (some .boolean)) 0 G tc [.ref (a 0), .int x, .int y] (wX tc a (th) (n) (b) (ec) (lt) (zs) (zw) (zr) (zo) (zi) (i) (mm) (mp) (mz) (un)) (bI (decide (askT (iR i) x y = 0))) (wX tc a (askT (iR i) x y) (n) (b) (ec) (lt) (zs) (zw) (zr) (zo) (zi) (i) (mm) (mp) (mz) (un)) := by
  refine kI_of [some (.ref (a 0)), some (.int x), some (.int y)] 0 (by decide) (Nat.le_of_ble_eq_true rfl) rfl ?_
  intro p e s m args below meth c A C
  refine xaload_0 C dX6_asks_0 ?_
  refine xaload_0 C dX6_asks_1 ?_
  refine xget C 0 f_X6_84 dX6_asks_2 rfl rfl ?_
  refine xif_ne C (tgt := 12) dX6_asks_5 (by decide) (fun h5 => ?_) (fun h5 => ?_)
  · skip
    have h5 := bI1 h5
    refine xiload_1 C dX6_asks_12 ?_
    refine xif_lt C (tgt := 21) dX6_asks_13 (by decide) (fun h13 => ?_) (fun h13 => ?_)
    · skip
      refine xiconst C (2) dX6_asks_21 (by decide) ?_
      refine xgoto C (tgt := 26) dX6_asks_22 (by decide) ?_
      have hth : askT (iR i) x y = 2 := by simp [askT, h5, h13]
      refine xtop (w := .int (askT (iR i) x y)) (congrArg Value.int hth.symm) ?_
      refine xput C 0 (wX tc a (askT (iR i) x y) (n) (b) (ec) (lt) (zs) (zw) (zr) (zo) (zi) (i) (mm) (mp) (mz) (un)) fw_X6_64 dX6_asks_26 rfl (Nat.le_of_ble_eq_true rfl) rfl rfl rfl ?_
      refine xaload_0 C dX6_asks_29 ?_
      refine xget C 0 f_X6_64 dX6_asks_30 rfl rfl ?_
      refine xif_ne C (tgt := 40) dX6_asks_33 (by decide) (fun h33 => ?_) (fun h33 => ?_)
      · skip
        refine xiconst C (0) dX6_asks_40 (by decide) ?_
        exact xzret C dX6_asks_41 (by first | rfl | exact bI_nar _) (by simp [bI, hth]) (rfl)
      · skip
        exact absurd (h33.symm.trans hth) (by decide)
    · skip
      refine xiload_1 C dX6_asks_16 ?_
      refine xiload_2 C dX6_asks_17 ?_
      refine xicmp_lt C (tgt := 25) dX6_asks_18 (by decide) (fun h18 => ?_) (fun h18 => ?_)
      · skip
        refine xiconst C (0) dX6_asks_25 (by decide) ?_
        have hth : askT (iR i) x y = 0 := by simp [askT, h5, h13, h18]
        refine xtop (w := .int (askT (iR i) x y)) (congrArg Value.int hth.symm) ?_
        refine xput C 0 (wX tc a (askT (iR i) x y) (n) (b) (ec) (lt) (zs) (zw) (zr) (zo) (zi) (i) (mm) (mp) (mz) (un)) fw_X6_64 dX6_asks_26 rfl (Nat.le_of_ble_eq_true rfl) rfl rfl rfl ?_
        refine xaload_0 C dX6_asks_29 ?_
        refine xget C 0 f_X6_64 dX6_asks_30 rfl rfl ?_
        refine xif_ne C (tgt := 40) dX6_asks_33 (by decide) (fun h33 => ?_) (fun h33 => ?_)
        · skip
          exact absurd hth h33
        · skip
          refine xiconst C (1) dX6_asks_36 (by decide) ?_
          refine xgoto C (tgt := 41) dX6_asks_37 (by decide) ?_
          exact xzret C dX6_asks_41 (by first | rfl | exact bI_nar _) (by simp [bI, hth]) (rfl)
      · skip
        refine xiconst C (2) dX6_asks_21 (by decide) ?_
        refine xgoto C (tgt := 26) dX6_asks_22 (by decide) ?_
        have hth : askT (iR i) x y = 2 := by simp [askT, h5, h13, h18]
        refine xtop (w := .int (askT (iR i) x y)) (congrArg Value.int hth.symm) ?_
        refine xput C 0 (wX tc a (askT (iR i) x y) (n) (b) (ec) (lt) (zs) (zw) (zr) (zo) (zi) (i) (mm) (mp) (mz) (un)) fw_X6_64 dX6_asks_26 rfl (Nat.le_of_ble_eq_true rfl) rfl rfl rfl ?_
        refine xaload_0 C dX6_asks_29 ?_
        refine xget C 0 f_X6_64 dX6_asks_30 rfl rfl ?_
        refine xif_ne C (tgt := 40) dX6_asks_33 (by decide) (fun h33 => ?_) (fun h33 => ?_)
        · skip
          refine xiconst C (0) dX6_asks_40 (by decide) ?_
          exact xzret C dX6_asks_41 (by first | rfl | exact bI_nar _) (by simp [bI, hth]) (rfl)
        · skip
          exact absurd (h33.symm.trans hth) (by decide)
  · skip
    have h5 := bI0 h5
    refine xiconst C (1) dX6_asks_8 (by decide) ?_
    refine xgoto C (tgt := 26) dX6_asks_9 (by decide) ?_
    have hth : askT (iR i) x y = 1 := by simp [askT, h5]
    refine xtop (w := .int (askT (iR i) x y)) (congrArg Value.int hth.symm) ?_
    refine xput C 0 (wX tc a (askT (iR i) x y) (n) (b) (ec) (lt) (zs) (zw) (zr) (zo) (zi) (i) (mm) (mp) (mz) (un)) fw_X6_64 dX6_asks_26 rfl (Nat.le_of_ble_eq_true rfl) rfl rfl rfl ?_
    refine xaload_0 C dX6_asks_29 ?_
    refine xget C 0 f_X6_64 dX6_asks_30 rfl rfl ?_
    refine xif_ne C (tgt := 40) dX6_asks_33 (by decide) (fun h33 => ?_) (fun h33 => ?_)
    · skip
      refine xiconst C (0) dX6_asks_40 (by decide) ?_
      exact xzret C dX6_asks_41 (by first | rfl | exact bI_nar _) (by simp [bI, hth]) (rfl)
    · skip
      exact absurd (h33.symm.trans hth) (by decide)
set_option maxHeartbeats 4000000 in
set_option maxRecDepth 100000 in
theorem c_X6_kind (l : Launch) (G : va_G) (tc : Nat → ClassId) (a : Nat → Nat) (th : Int32) (n : Nat) (b : Nat → Int32) (ec : Int32) (lt : Bool) (zs : Nat → Nat) (zw : Nat → Int32) (zr zo : Nat → Bool) (zi : Nat → Int32) (i : IS) (mm : Nat) (mp mz un : Nat → Nat) (hm : iM i ≤ 48) (x : Int32) : kI l yX6_kind (xw yX6_kind cX6_kind 2 (some .int)) 1 G tc [.ref (a 0), .int x] (wX tc a (th) (n) (b) (ec) (lt) (zs) (zw) (zr) (zo) (zi) (i) (mm) (mp) (mz) (un)) (if askT (iR i) x (nI (iM i)) = 0 then iK i x.toNatClampNeg else 0) (wX tc a (askT (iR i) x (nI (iM i))) (n) (b) (ec) (lt) (zs) (zw) (zr) (zo) (zi) (i) (mm) (mp) (mz) (un)) := by
  refine kI_of [some (.ref (a 0)), some (.int x)] 0 (by decide) (Nat.le_of_ble_eq_true rfl) rfl ?_
  intro p e s m args below meth c A C
  refine xaload_0 C dX6_kind_0 ?_
  refine xiload_1 C dX6_kind_1 ?_
  refine xaload_0 C dX6_kind_2 ?_
  refine xget C 0 f_X6_90 dX6_kind_3 rfl rfl ?_
  refine xcallViA C m_X6_asks k_X6_153 (c_X6_asks l G tc a th n b ec lt zs zw zr zo zi i mm mp mz un x _) dX6_kind_6 0 rfl rfl rfl (by decide) rfl (Nat.le_of_ble_eq_true rfl) ⟨by decide, by decide⟩ ?_
  refine xif_eq C (tgt := 21) dX6_kind_9 (by decide) (fun h9 => ?_) (fun h9 => ?_)
  · skip
    have h9 := bI0 h9
    have h9 := of_decide_eq_false h9
    refine xiconst C (0) dX6_kind_21 (by decide) ?_
    exact xiret C dX6_kind_22 (by rw [if_neg h9]) (rfl)
  · skip
    have h9 := bI1 h9
    have h9 := of_decide_eq_true h9
    refine xaload_0 C dX6_kind_12 ?_
    refine xget C 0 f_X6_37 dX6_kind_13 rfl rfl ?_
    refine xiload_1 C dX6_kind_16 ?_
    refine xiald C 7 dX6_kind_17 rfl ((fun q => mk_in q.2.1 q.2.2 hm) (askT_0 h9)) ?_
    refine xgoto C (tgt := 22) dX6_kind_18 (by decide) ?_
    exact xiret C dX6_kind_22 (by rw [if_pos h9]) (rfl)
set_option maxHeartbeats 4000000 in
set_option maxRecDepth 100000 in
theorem c_X6_start (l : Launch) (G : va_G) (tc : Nat → ClassId) (a : Nat → Nat) (th : Int32) (n : Nat) (b : Nat → Int32) (ec : Int32) (lt : Bool) (zs : Nat → Nat) (zw : Nat → Int32) (zr zo : Nat → Bool) (zi : Nat → Int32) (i : IS) (mm : Nat) (mp mz un : Nat → Nat) (hm : iM i ≤ 48) (x : Int32) : kI l yX6_start (xw yX6_start cX6_start 2 (some .int)) 1 G tc [.ref (a 0), .int x] (wX tc a (th) (n) (b) (ec) (lt) (zs) (zw) (zr) (zo) (zi) (i) (mm) (mp) (mz) (un)) (if askT (iR i) x (nI (iM i)) = 0 then iA i x.toNatClampNeg else 0) (wX tc a (askT (iR i) x (nI (iM i))) (n) (b) (ec) (lt) (zs) (zw) (zr) (zo) (zi) (i) (mm) (mp) (mz) (un)) := by
  refine kI_of [some (.ref (a 0)), some (.int x)] 0 (by decide) (Nat.le_of_ble_eq_true rfl) rfl ?_
  intro p e s m args below meth c A C
  refine xaload_0 C dX6_start_0 ?_
  refine xiload_1 C dX6_start_1 ?_
  refine xaload_0 C dX6_start_2 ?_
  refine xget C 0 f_X6_90 dX6_start_3 rfl rfl ?_
  refine xcallViA C m_X6_asks k_X6_153 (c_X6_asks l G tc a th n b ec lt zs zw zr zo zi i mm mp mz un x _) dX6_start_6 0 rfl rfl rfl (by decide) rfl (Nat.le_of_ble_eq_true rfl) ⟨by decide, by decide⟩ ?_
  refine xif_eq C (tgt := 21) dX6_start_9 (by decide) (fun h9 => ?_) (fun h9 => ?_)
  · skip
    have h9 := bI0 h9
    have h9 := of_decide_eq_false h9
    refine xiconst C (0) dX6_start_21 (by decide) ?_
    exact xiret C dX6_start_22 (by rw [if_neg h9]) (rfl)
  · skip
    have h9 := bI1 h9
    have h9 := of_decide_eq_true h9
    refine xaload_0 C dX6_start_12 ?_
    refine xget C 0 f_X6_40 dX6_start_13 rfl rfl ?_
    refine xiload_1 C dX6_start_16 ?_
    refine xiald C 8 dX6_start_17 rfl ((fun q => mk_in q.2.1 q.2.2 hm) (askT_0 h9)) ?_
    refine xgoto C (tgt := 22) dX6_start_18 (by decide) ?_
    exact xiret C dX6_start_22 (by rw [if_pos h9]) (rfl)
set_option maxHeartbeats 4000000 in
set_option maxRecDepth 100000 in
theorem c_X6_end (l : Launch) (G : va_G) (tc : Nat → ClassId) (a : Nat → Nat) (th : Int32) (n : Nat) (b : Nat → Int32) (ec : Int32) (lt : Bool) (zs : Nat → Nat) (zw : Nat → Int32) (zr zo : Nat → Bool) (zi : Nat → Int32) (i : IS) (mm : Nat) (mp mz un : Nat → Nat) (hm : iM i ≤ 48) (x : Int32) : kI l yX6_end (xw yX6_end cX6_end 2 (some .int)) 1 G tc [.ref (a 0), .int x] (wX tc a (th) (n) (b) (ec) (lt) (zs) (zw) (zr) (zo) (zi) (i) (mm) (mp) (mz) (un)) (if askT (iR i) x (nI (iM i)) = 0 then iE i x.toNatClampNeg else 0) (wX tc a (askT (iR i) x (nI (iM i))) (n) (b) (ec) (lt) (zs) (zw) (zr) (zo) (zi) (i) (mm) (mp) (mz) (un)) := by
  refine kI_of [some (.ref (a 0)), some (.int x)] 0 (by decide) (Nat.le_of_ble_eq_true rfl) rfl ?_
  intro p e s m args below meth c A C
  refine xaload_0 C dX6_end_0 ?_
  refine xiload_1 C dX6_end_1 ?_
  refine xaload_0 C dX6_end_2 ?_
  refine xget C 0 f_X6_90 dX6_end_3 rfl rfl ?_
  refine xcallViA C m_X6_asks k_X6_153 (c_X6_asks l G tc a th n b ec lt zs zw zr zo zi i mm mp mz un x _) dX6_end_6 0 rfl rfl rfl (by decide) rfl (Nat.le_of_ble_eq_true rfl) ⟨by decide, by decide⟩ ?_
  refine xif_eq C (tgt := 21) dX6_end_9 (by decide) (fun h9 => ?_) (fun h9 => ?_)
  · skip
    have h9 := bI0 h9
    have h9 := of_decide_eq_false h9
    refine xiconst C (0) dX6_end_21 (by decide) ?_
    exact xiret C dX6_end_22 (by rw [if_neg h9]) (rfl)
  · skip
    have h9 := bI1 h9
    have h9 := of_decide_eq_true h9
    refine xaload_0 C dX6_end_12 ?_
    refine xget C 0 f_X6_43 dX6_end_13 rfl rfl ?_
    refine xiload_1 C dX6_end_16 ?_
    refine xiald C 9 dX6_end_17 rfl ((fun q => mk_in q.2.1 q.2.2 hm) (askT_0 h9)) ?_
    refine xgoto C (tgt := 22) dX6_end_18 (by decide) ?_
    exact xiret C dX6_end_22 (by rw [if_pos h9]) (rfl)
set_option maxHeartbeats 4000000 in
set_option maxRecDepth 100000 in
theorem c_X6_state (l : Launch) (G : va_G) (tc : Nat → ClassId) (a : Nat → Nat) (th : Int32) (n : Nat) (b : Nat → Int32) (ec : Int32) (lt : Bool) (zs : Nat → Nat) (zw : Nat → Int32) (zr zo : Nat → Bool) (zi : Nat → Int32) (i : IS) (mm : Nat) (mp mz un : Nat → Nat) (hm : iM i ≤ 48) (x : Int32) : kI l yX6_state (xw yX6_state cX6_state 2 (some .int)) 1 G tc [.ref (a 0), .int x] (wX tc a (th) (n) (b) (ec) (lt) (zs) (zw) (zr) (zo) (zi) (i) (mm) (mp) (mz) (un)) (if askT (iR i) x (nI (iM i)) = 0 then iT i x.toNatClampNeg else 0) (wX tc a (askT (iR i) x (nI (iM i))) (n) (b) (ec) (lt) (zs) (zw) (zr) (zo) (zi) (i) (mm) (mp) (mz) (un)) := by
  refine kI_of [some (.ref (a 0)), some (.int x)] 0 (by decide) (Nat.le_of_ble_eq_true rfl) rfl ?_
  intro p e s m args below meth c A C
  refine xaload_0 C dX6_state_0 ?_
  refine xiload_1 C dX6_state_1 ?_
  refine xaload_0 C dX6_state_2 ?_
  refine xget C 0 f_X6_90 dX6_state_3 rfl rfl ?_
  refine xcallViA C m_X6_asks k_X6_153 (c_X6_asks l G tc a th n b ec lt zs zw zr zo zi i mm mp mz un x _) dX6_state_6 0 rfl rfl rfl (by decide) rfl (Nat.le_of_ble_eq_true rfl) ⟨by decide, by decide⟩ ?_
  refine xif_eq C (tgt := 21) dX6_state_9 (by decide) (fun h9 => ?_) (fun h9 => ?_)
  · skip
    have h9 := bI0 h9
    have h9 := of_decide_eq_false h9
    refine xiconst C (0) dX6_state_21 (by decide) ?_
    exact xiret C dX6_state_22 (by rw [if_neg h9]) (rfl)
  · skip
    have h9 := bI1 h9
    have h9 := of_decide_eq_true h9
    refine xaload_0 C dX6_state_12 ?_
    refine xget C 0 f_X6_46 dX6_state_13 rfl rfl ?_
    refine xiload_1 C dX6_state_16 ?_
    refine xiald C 10 dX6_state_17 rfl ((fun q => mk_in q.2.1 q.2.2 hm) (askT_0 h9)) ?_
    refine xgoto C (tgt := 22) dX6_state_18 (by decide) ?_
    exact xiret C dX6_state_22 (by rw [if_pos h9]) (rfl)
set_option maxHeartbeats 4000000 in
set_option maxRecDepth 100000 in
theorem c_X6_parent (l : Launch) (G : va_G) (tc : Nat → ClassId) (a : Nat → Nat) (th : Int32) (n : Nat) (b : Nat → Int32) (ec : Int32) (lt : Bool) (zs : Nat → Nat) (zw : Nat → Int32) (zr zo : Nat → Bool) (zi : Nat → Int32) (i : IS) (mm : Nat) (mp mz un : Nat → Nat) (hm : iM i ≤ 48) (x : Int32) : kI l yX6_parent (xw yX6_parent cX6_parent 2 (some .int)) 1 G tc [.ref (a 0), .int x] (wX tc a (th) (n) (b) (ec) (lt) (zs) (zw) (zr) (zo) (zi) (i) (mm) (mp) (mz) (un)) (if askT (iR i) x (nI (iM i)) = 0 then iP i x.toNatClampNeg else 0) (wX tc a (askT (iR i) x (nI (iM i))) (n) (b) (ec) (lt) (zs) (zw) (zr) (zo) (zi) (i) (mm) (mp) (mz) (un)) := by
  refine kI_of [some (.ref (a 0)), some (.int x)] 0 (by decide) (Nat.le_of_ble_eq_true rfl) rfl ?_
  intro p e s m args below meth c A C
  refine xaload_0 C dX6_parent_0 ?_
  refine xiload_1 C dX6_parent_1 ?_
  refine xaload_0 C dX6_parent_2 ?_
  refine xget C 0 f_X6_90 dX6_parent_3 rfl rfl ?_
  refine xcallViA C m_X6_asks k_X6_153 (c_X6_asks l G tc a th n b ec lt zs zw zr zo zi i mm mp mz un x _) dX6_parent_6 0 rfl rfl rfl (by decide) rfl (Nat.le_of_ble_eq_true rfl) ⟨by decide, by decide⟩ ?_
  refine xif_eq C (tgt := 21) dX6_parent_9 (by decide) (fun h9 => ?_) (fun h9 => ?_)
  · skip
    have h9 := bI0 h9
    have h9 := of_decide_eq_false h9
    refine xiconst C (0) dX6_parent_21 (by decide) ?_
    exact xiret C dX6_parent_22 (by rw [if_neg h9]) (rfl)
  · skip
    have h9 := bI1 h9
    have h9 := of_decide_eq_true h9
    refine xaload_0 C dX6_parent_12 ?_
    refine xget C 0 f_X6_49 dX6_parent_13 rfl rfl ?_
    refine xiload_1 C dX6_parent_16 ?_
    refine xiald C 11 dX6_parent_17 rfl ((fun q => mk_in q.2.1 q.2.2 hm) (askT_0 h9)) ?_
    refine xgoto C (tgt := 22) dX6_parent_18 (by decide) ?_
    exact xiret C dX6_parent_22 (by rw [if_pos h9]) (rfl)
set_option maxHeartbeats 4000000 in
set_option maxRecDepth 100000 in
theorem c_X6_islandCount (l : Launch) (G : va_G) (tc : Nat → ClassId) (a : Nat → Nat) (th : Int32) (n : Nat) (b : Nat → Int32) (ec : Int32) (lt : Bool) (zs : Nat → Nat) (zw : Nat → Int32) (zr zo : Nat → Bool) (zi : Nat → Int32) (i : IS) (mm : Nat) (mp mz un : Nat → Nat) : kI l yX6_islandCount (xw yX6_islandCount cX6_islandCount 1 (some .int)) 1 G tc [.ref (a 0)] (wX tc a (th) (n) (b) (ec) (lt) (zs) (zw) (zr) (zo) (zi) (i) (mm) (mp) (mz) (un)) (if askT (iR i) 0 1 = 0 then nI (iM i) else 0) (wX tc a (askT (iR i) 0 1) (n) (b) (ec) (lt) (zs) (zw) (zr) (zo) (zi) (i) (mm) (mp) (mz) (un)) := by
  refine kI_of [some (.ref (a 0))] 0 (by decide) (Nat.le_of_ble_eq_true rfl) rfl ?_
  intro p e s m args below meth c A C
  refine xaload_0 C dX6_islandCount_0 ?_
  refine xiconst C (0) dX6_islandCount_1 (by decide) ?_
  refine xiconst C (1) dX6_islandCount_2 (by decide) ?_
  refine xcallViA C m_X6_asks k_X6_153 (c_X6_asks l G tc a th n b ec lt zs zw zr zo zi i mm mp mz un 0 1) dX6_islandCount_3 0 rfl rfl rfl (by decide) rfl (Nat.le_of_ble_eq_true rfl) ⟨by decide, by decide⟩ ?_
  refine xif_eq C (tgt := 16) dX6_islandCount_6 (by decide) (fun h6 => ?_) (fun h6 => ?_)
  · skip
    have h6 := bI0 h6
    have h6 := of_decide_eq_false h6
    refine xiconst C (0) dX6_islandCount_16 (by decide) ?_
    exact xiret C dX6_islandCount_17 (by rw [if_neg h6]) (rfl)
  · skip
    have h6 := bI1 h6
    have h6 := of_decide_eq_true h6
    refine xaload_0 C dX6_islandCount_9 ?_
    refine xget C 0 f_X6_90 dX6_islandCount_10 rfl rfl ?_
    refine xgoto C (tgt := 17) dX6_islandCount_13 (by decide) ?_
    exact xiret C dX6_islandCount_17 (by rw [if_pos h6]) (rfl)
set_option maxHeartbeats 4000000 in
set_option maxRecDepth 100000 in
theorem c_X6_left (l : Launch) (G : va_G) (tc : Nat → ClassId) (a : Nat → Nat) (th : Int32) (n : Nat) (b : Nat → Int32) (ec : Int32) (lt : Bool) (zs : Nat → Nat) (zw : Nat → Int32) (zr zo : Nat → Bool) (zi : Nat → Int32) (i : IS) (mm : Nat) (mp mz un : Nat → Nat) : kI l yX6_left (xw yX6_left cX6_left 1 (some .int)) 1 G tc [.ref (a 0)] (wX tc a (th) (n) (b) (ec) (lt) (zs) (zw) (zr) (zo) (zi) (i) (mm) (mp) (mz) (un)) (if askT (iR i) 0 1 = 0 then nI (iL i) else 0) (wX tc a (askT (iR i) 0 1) (n) (b) (ec) (lt) (zs) (zw) (zr) (zo) (zi) (i) (mm) (mp) (mz) (un)) := by
  refine kI_of [some (.ref (a 0))] 0 (by decide) (Nat.le_of_ble_eq_true rfl) rfl ?_
  intro p e s m args below meth c A C
  refine xaload_0 C dX6_left_0 ?_
  refine xiconst C (0) dX6_left_1 (by decide) ?_
  refine xiconst C (1) dX6_left_2 (by decide) ?_
  refine xcallViA C m_X6_asks k_X6_153 (c_X6_asks l G tc a th n b ec lt zs zw zr zo zi i mm mp mz un 0 1) dX6_left_3 0 rfl rfl rfl (by decide) rfl (Nat.le_of_ble_eq_true rfl) ⟨by decide, by decide⟩ ?_
  refine xif_eq C (tgt := 16) dX6_left_6 (by decide) (fun h6 => ?_) (fun h6 => ?_)
  · skip
    have h6 := bI0 h6
    have h6 := of_decide_eq_false h6
    refine xiconst C (0) dX6_left_16 (by decide) ?_
    exact xiret C dX6_left_17 (by rw [if_neg h6]) (rfl)
  · skip
    have h6 := bI1 h6
    have h6 := of_decide_eq_true h6
    refine xaload_0 C dX6_left_9 ?_
    refine xget C 0 f_X6_110 dX6_left_10 rfl rfl ?_
    refine xgoto C (tgt := 17) dX6_left_13 (by decide) ?_
    exact xiret C dX6_left_17 (by rw [if_pos h6]) (rfl)
