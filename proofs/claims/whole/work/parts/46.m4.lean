set_option maxHeartbeats 4000000 in
set_option maxRecDepth 100000 in
theorem c_X6_quick (l : Launch) (G : va_G) (tc : Nat → ClassId) (a : Nat → Nat) (th : Int32) (n : Nat) (b : Nat → Int32) (ec : Int32) (lt : Bool) (zs : Nat → Nat) (zw : Nat → Int32) (zr zo : Nat → Bool) (zi : Nat → Int32) (i : IS) (mm : Nat) (mp mz un : Nat → Nat) (hz : ∀ w, zs w ≤ 3) (hn : n ≤ 48) (r : IS) (hr : mqG lt b n ec zs zw zr zo zi n 0 (st0 i) = r) : kI l yX6_quick (xw yX6_quick cX6_quick 2 (some .int)) 3 G tc [.ref (a 0)] (wX tc a (th) (n) (b) (ec) (lt) (zs) (zw) (zr) (zo) (zi) (i) (mm) (mp) (mz) (un)) (nI (iM (setRd (guG (nI n) (nI 2) (iQ r) r) true))) (wX tc a (0) (n) (b) (ec) (lt) (zs) (zw) (zr) (zo) (zi) (setRd (guG (nI n) (nI 2) (iQ r) r) true) (mm) (mp) (mz) (un)) := by
  refine kI_of [some (.ref (a 0)), none] 1 (by decide) (Nat.le_of_ble_eq_true rfl) rfl ?_
  intro p e s m args below meth c A C
  have loopF : ∀ (f : Nat) (r3 : IS) (x9 : Int32) (i2 : IS), iQ i2 = f → iOk i2 → iQ i2 ≤ 8 → guG (nI n) (nI 2) f i2 = guG (nI n) (nI 2) (iQ r) r → xAT p l e (xR 3 0 0) s m args below meth c (xQi below args s G A (nI (iM (setRd (guG (nI n) (nI 2) (iQ r) r) true))) (wX tc a (0) (n) (b) (ec) (lt) (zs) (zw) (zr) (zo) (zi) (setRd (guG (nI n) (nI 2) (iQ r) r) true) (mm) (mp) (mz) (un))) G A 2 0 0 (wX tc a (0) (n) (b) (ec) (lt) (zs) (zw) (zr) (zo) (zi) (i2) (mm) (mp) (mz) (un)) [some (.ref (a 0)), some (.int x9)] 41 [] := by
    intro f
    induction f with
    | zero =>
      intro r3 x9 i2 hf hi2 h82 hg
      have hg : i2 = guG (nI n) (nI 2) (iQ r) r := hg
      refine xaload_0 C dX6_quick_41 ?_
      refine xget C 0 f_X6_93 dX6_quick_42 rfl rfl ?_
      refine xif_le C (tgt := 60) dX6_quick_45 (by decide) (fun h45 => ?_) (fun h45 => ?_)
      · skip
        refine xaload_0 C dX6_quick_60 ?_
        refine xiconst C (1) dX6_quick_61 (by decide) ?_
        refine xput C 0 (wX tc a (0) (n) (b) (ec) (lt) (zs) (zw) (zr) (zo) (zi) (setRd i2 true) (mm) (mp) (mz) (un)) fw_X6_84 dX6_quick_62 rfl (Nat.le_of_ble_eq_true rfl) rfl rfl rfl ?_
        refine xaload_0 C dX6_quick_65 ?_
        refine xget C 0 f_X6_90 dX6_quick_66 rfl rfl ?_
        exact xiret C dX6_quick_69 (by rw [← hg]) (by rw [← hg])
      · skip
        exact absurd (show nI (iQ i2) ≤ 0 from by rw [hf]; exact Int32.le_refl _) h45
    | succ f ih =>
      intro r3 x9 i2 hf hi2 h82 hg
      rw [guG] at hg
      refine xaload_0 C dX6_quick_41 ?_
      refine xget C 0 f_X6_93 dX6_quick_42 rfl rfl ?_
      refine xif_le C (tgt := 60) dX6_quick_45 (by decide) (fun h45 => ?_) (fun h45 => ?_)
      · skip
        exact absurd (nI_le0 h45 (by omega)) (by omega)
      · skip
        refine xaload_0 C dX6_quick_48 ?_
        refine xiconst C (nI 2) dX6_quick_49 (by decide) ?_
        refine xaload_0 C dX6_quick_50 ?_
        refine xget C 0 f_X6_81 dX6_quick_51 rfl rfl ?_
        refine xcallVvA C m_X6_finish k_X6_103 (c_X6_finish l G tc a (0) (n) (b) (ec) (lt) (zs) (zw) (zr) (zo) (zi) (i2) (mm) (mp) (mz) (un) hi2 (by omega) h82 (nI 2) (nI n)) dX6_quick_54 0 rfl rfl rfl (by decide) rfl (Nat.le_of_ble_eq_true rfl) ⟨by decide, by decide⟩ ?_
        refine xgoto C (tgt := 41) dX6_quick_57 (by decide) ?_
        exact ih r3 x9 _ (by show iQ i2 - 1 = f; omega) (iOk_fn hi2) (by show iQ i2 - 1 ≤ 8; omega) hg
  have loopJ : ∀ (f j : Nat) (i2 : IS), n ≤ j + f → j ≤ 60 → qJ j i2 ∨ n ≤ j → iOk i2 → iQ i2 ≤ 8 → mqG lt b n ec zs zw zr zo zi f j i2 = r → xAT p l e (xR 3 0 0) s m args below meth c (xQi below args s G A (nI (iM (setRd (guG (nI n) (nI 2) (iQ r) r) true))) (wX tc a (0) (n) (b) (ec) (lt) (zs) (zw) (zr) (zo) (zi) (setRd (guG (nI n) (nI 2) (iQ r) r) true) (mm) (mp) (mz) (un))) G A 2 0 0 (wX tc a (0) (n) (b) (ec) (lt) (zs) (zw) (zr) (zo) (zi) (i2) (mm) (mp) (mz) (un)) [some (.ref (a 0)), some (.int (nI j))] 22 [] := by
    intro f
    induction f with
    | zero =>
      intro j i2 hf hj60 hok hi2 h82 hz2
      have hz2 : i2 = r := hz2
      subst hz2
      refine xiload_1 C dX6_quick_22 ?_
      refine xaload_0 C dX6_quick_23 ?_
      refine xget C 0 f_X6_81 dX6_quick_24 rfl rfl ?_
      refine xicmp_ge C (tgt := 41) dX6_quick_27 (by decide) (fun h27 => ?_) (fun h27 => ?_)
      · skip
        exact loopF (iQ i2) i2 (nI j) i2 rfl hi2 h82 rfl
      · skip
        exact absurd (show nI n ≤ nI j from nI_le (by omega) (by omega)) h27
    | succ f ih =>
      intro j i2 hf hj60 hok hi2 h82 hz2
      rw [mqG] at hz2
      rcases Nat.lt_or_ge j n with hjn | hjn
      · rw [if_pos hjn] at hz2
        have hqj : qJ j i2 := by
          rcases hok with h | h
          · exact h
          · omega
        have hst := stp_ok (lt := lt) (b := b) (n := n) (ec := ec) (zs := zs) (zw := zw) (zr := zr) (zo := zo) (zi := zi) hz hqj (by omega)
        refine xiload_1 C dX6_quick_22 ?_
        refine xaload_0 C dX6_quick_23 ?_
        refine xget C 0 f_X6_81 dX6_quick_24 rfl rfl ?_
        refine xicmp_ge C (tgt := 41) dX6_quick_27 (by decide) (fun h27 => ?_) (fun h27 => ?_)
        · skip
          exact absurd h27 (nI_ge hjn (by omega))
        · skip
          refine xiload_1 C dX6_quick_30 ?_
          refine xaload_0 C dX6_quick_31 ?_
          refine xiload_1 C dX6_quick_32 ?_
          refine xcallViA C m_X6_step k_X6_113 (c_X6_step l G tc a (0) (n) (b) (ec) (lt) (zs) (zw) (zr) (zo) (zi) (i2) (mm) (mp) (mz) (un) hz hn j hjn hi2 (by have := hqj.1.1; omega) h82 hqj.2) dX6_quick_33 0 rfl rfl rfl (by decide) rfl (Nat.le_of_ble_eq_true rfl) ⟨by decide, by decide⟩ ?_
          refine xiadd C dX6_quick_36 ?_
          rw [nI_add j (stp lt b n ec zs zw zr zo zi i2 j).1]
          refine xistore_1 C dX6_quick_37 rfl (by decide) ?_
          refine xgoto C (tgt := 22) dX6_quick_38 (by decide) ?_
          exact ih (j + (stp lt b n ec zs zw zr zo zi i2 j).1) (stp lt b n ec zs zw zr zo zi i2 j).2 (by omega) (by omega) (Or.inl ⟨qOk_up hst.1.1 (by omega), hst.1.2⟩) (qOk_i hst.1.1 (by omega)) hst.1.1.2.1 hz2
      · rw [if_neg (by omega)] at hz2
        subst hz2
        refine xiload_1 C dX6_quick_22 ?_
        refine xaload_0 C dX6_quick_23 ?_
        refine xget C 0 f_X6_81 dX6_quick_24 rfl rfl ?_
        refine xicmp_ge C (tgt := 41) dX6_quick_27 (by decide) (fun h27 => ?_) (fun h27 => ?_)
        · skip
          exact loopF (iQ i2) i2 (nI j) i2 rfl hi2 h82 rfl
        · skip
          exact absurd (show nI n ≤ nI j from nI_le (by omega) (by omega)) h27
  refine xaload_0 C dX6_quick_0 ?_
  refine xiconst C (0) dX6_quick_1 (by decide) ?_
  refine xput C 0 (wX tc a (0) (n) (b) (ec) (lt) (zs) (zw) (zr) (zo) (zi) (i) (mm) (mp) (mz) (un)) fw_X6_64 dX6_quick_2 rfl (Nat.le_of_ble_eq_true rfl) rfl rfl rfl ?_
  refine xaload_0 C dX6_quick_5 ?_
  refine xiconst C (0) dX6_quick_6 (by decide) ?_
  refine xput C 0 (wX tc a (0) (n) (b) (ec) (lt) (zs) (zw) (zr) (zo) (zi) ((iK i, iA i, iE i, iT i, iP i, iD i, iO i, 0, iQ i, iL i, iR i)) (mm) (mp) (mz) (un)) fw_X6_90 dX6_quick_7 rfl (Nat.le_of_ble_eq_true rfl) rfl rfl rfl ?_
  refine xaload_0 C dX6_quick_10 ?_
  refine xiconst C (0) dX6_quick_11 (by decide) ?_
  refine xput C 0 (wX tc a (0) (n) (b) (ec) (lt) (zs) (zw) (zr) (zo) (zi) ((iK i, iA i, iE i, iT i, iP i, iD i, iO i, 0, 0, iL i, iR i)) (mm) (mp) (mz) (un)) fw_X6_93 dX6_quick_12 rfl (Nat.le_of_ble_eq_true rfl) rfl rfl rfl ?_
  refine xaload_0 C dX6_quick_15 ?_
  refine xiconst C (0) dX6_quick_16 (by decide) ?_
  refine xput C 0 (wX tc a (0) (n) (b) (ec) (lt) (zs) (zw) (zr) (zo) (zi) (st0 i) (mm) (mp) (mz) (un)) fw_X6_110 dX6_quick_17 rfl (Nat.le_of_ble_eq_true rfl) rfl rfl rfl ?_
  refine xiconst C (nI 0) dX6_quick_20 (by decide) ?_
  refine xistore_1 C dX6_quick_21 rfl (by decide) ?_
  exact loopJ n 0 (st0 i) (by omega) (by decide) (Or.inl ⟨⟨Nat.le_refl _, Nat.zero_le _, fun r hr => absurd hr (Nat.not_lt_zero r)⟩, fun r hr => absurd hr (Nat.not_lt_zero r)⟩) ⟨Nat.zero_le _, Nat.zero_le _, fun r hr => absurd hr (Nat.not_lt_zero r)⟩ (Nat.zero_le _) hr
set_option maxHeartbeats 4000000 in
set_option maxRecDepth 100000 in
theorem c_X6_setWord (l : Launch) (G : va_G) (tc : Nat → ClassId) (a : Nat → Nat) (th : Int32) (n : Nat) (b : Nat → Int32) (ec : Int32) (lt : Bool) (zs : Nat → Nat) (zw : Nat → Int32) (zr zo : Nat → Bool) (zi : Nat → Int32) (i : IS) (mm : Nat) (mp mz un : Nat → Nat) (hz : ∀ w, zs w ≤ 3) (x : Int32) (v : Bool) (y z : Int32) : kI l yX6_setWord (xw yX6_setWord cX6_setWord 7 (some .boolean)) 2 G tc [.ref (a 0), .int x, .int (bI v), .int y, .int z] (wX tc a (th) (n) (b) (ec) (lt) (zs) (zw) (zr) (zo) (zi) (i) (mm) (mp) (mz) (un)) (bI (if swTm x y z = 0 then cplM (updN zs (swI x v) z.toNatClampNeg) x.toNatClampNeg else false)) (wX tc a (swTm x y z) (n) (b) (ec) (lt) (if swTm x y z = 0 then updN zs (swI x v) z.toNatClampNeg else zs) (if swTm x y z = 0 then zwG y z.toNatClampNeg (swI x v) z.toNatClampNeg 0 zw else zw) (zr) (zo) (zi) (if swTm x y z = 0 then fgI i else i) (mm) (mp) (mz) (un)) := by
  refine kI_of [some (.ref (a 0)), some (.int x), some (.int (bI v)), some (.int y), some (.int z), none, none] 2 (by decide) (Nat.le_of_ble_eq_true rfl) rfl ?_
  intro p e s m args below meth c A C
  refine xaload_0 C dX6_setWord_0 ?_
  refine xiload_1 C dX6_setWord_1 ?_
  refine xiconst C (0) dX6_setWord_2 (by decide) ?_
  refine xiconst C (5) dX6_setWord_3 (by decide) ?_
  refine xcallSi0 C m_X6_isIn k_X6_67 (c_X6_isIn l G tc x 0 5) dX6_setWord_4 ([] : List Nat) rfl rfl rfl (by decide) rfl (Nat.le_of_ble_eq_true rfl) ⟨by decide, by decide⟩ ?_
  refine xif_ne C (tgt := 14) dX6_setWord_7 (by decide) (fun h7 => ?_) (fun h7 => ?_)
  · skip
    have h7 := bI1 h7
    refine xiload_4 C dX6_setWord_14 ?_
    refine xiconst C (0) dX6_setWord_16 (by decide) ?_
    refine xiconst C (3) dX6_setWord_17 (by decide) ?_
    refine xcallSi0 C m_X6_isIn k_X6_67 (c_X6_isIn l G tc z 0 3) dX6_setWord_18 ([] : List Nat) rfl rfl rfl (by decide) rfl (Nat.le_of_ble_eq_true rfl) ⟨by decide, by decide⟩ ?_
    refine xif_ne C (tgt := 28) dX6_setWord_21 (by decide) (fun h21 => ?_) (fun h21 => ?_)
    · skip
      have h21 := bI1 h21
      refine xiconst C (0) dX6_setWord_28 (by decide) ?_
      have hx6 := inB6_in h7
      obtain ⟨j6, hj6, hxj⟩ := vp_in_of hx6 (by decide)
      have hxc : x.toNatClampNeg = j6 := by rw [hxj]; exact nI_clamp (by omega)
      have hzi := isIn_n (n := 3) h21
      obtain ⟨q, hq3, hzq⟩ : ∃ q : Nat, q ≤ 3 ∧ z = nI q := nI_of2 (M := 3) (n := 3) (by decide) hzi.1 hzi.2
      have hzc : z.toNatClampNeg = q := by rw [hzq]; exact nI_clamp (by omega)
      have hT1 : swTm x y z = swT y q 0 := by rw [swTm, if_pos (show inB6 x = true from h7), if_pos h21, hzc]
      have loop1 : ∀ (f k : Nat), k + f = q → swT y f k = swTm x y z → xAT p l e (xR 2 0 0) s m args below meth c (xQi below args s G A (bI (if swTm x y z = 0 then cplM (updN zs (swI x v) z.toNatClampNeg) x.toNatClampNeg else false)) (wX tc a (swTm x y z) (n) (b) (ec) (lt) (if swTm x y z = 0 then updN zs (swI x v) z.toNatClampNeg else zs) (if swTm x y z = 0 then zwG y z.toNatClampNeg (swI x v) z.toNatClampNeg 0 zw else zw) (zr) (zo) (zi) (if swTm x y z = 0 then fgI i else i) (mm) (mp) (mz) (un))) G A 7 0 0 (wX tc a (0) (n) (b) (ec) (lt) (zs) (zw) (zr) (zo) (zi) (i) (mm) (mp) (mz) (un)) [some (.ref (a 0)), some (.int x), some (.int (bI v)), some (.int y), some (.int z), some (.int (nI k)), none] 35 [] := by
        intro f
        induction f with
        | zero =>
          intro k hk hs
          have hk : k = q := hk
          have hT0 : swTm x y z = 0 := hs.symm
          refine xiload_5 C dX6_setWord_35 ?_
          refine xiload_4 C dX6_setWord_37 ?_
          refine xicmp_ge C (tgt := 77) dX6_setWord_39 (by decide) (fun h39 => ?_) (fun h39 => ?_)
          · skip
            refine xaload_0 C dX6_setWord_77 ?_
            refine xget C 0 f_X6_64 dX6_setWord_78 rfl rfl ?_
            refine xif_eq C (tgt := 86) dX6_setWord_81 (by decide) (fun h81 => ?_) (fun h81 => ?_)
            · skip
              obtain ⟨w, hsw⟩ : ∃ w, swI x v = w := ⟨_, rfl⟩
              have hz2 : ∀ w9, updN zs w q w9 ≤ 3 := fun w9 => by
                rw [updN]
                split
                · exact hq3
                · exact hz w9
              refine xiload_2 C dX6_setWord_86 ?_
              refine xif_eq C (tgt := 97) dX6_setWord_87 (by decide) (fun h87 => ?_) (fun h87 => ?_)
              · skip
                have h87 := bI0 h87
                have hsv : swI x v = j6 := by rw [swI, if_neg (by rw [h87]; exact Bool.false_ne_true), hxc]
                refine xiload_1 C dX6_setWord_97 ?_
                refine xtop (w := .int (nI w)) (congrArg Value.int (by rw [hxj, ← hsw, hsv])) ?_
                have hw12 : w < 12 := by omega
                have loop2 : ∀ (n2 k : Nat) (g : Nat → Int32), k + n2 = q → zwG y q w n2 k g = zwG y q w q 0 zw → xAT p l e (xR 2 0 0) s m args below meth c (xQi below args s G A (bI (if swTm x y z = 0 then cplM (updN zs (swI x v) z.toNatClampNeg) x.toNatClampNeg else false)) (wX tc a (swTm x y z) (n) (b) (ec) (lt) (if swTm x y z = 0 then updN zs (swI x v) z.toNatClampNeg else zs) (if swTm x y z = 0 then zwG y z.toNatClampNeg (swI x v) z.toNatClampNeg 0 zw else zw) (zr) (zo) (zi) (if swTm x y z = 0 then fgI i else i) (mm) (mp) (mz) (un))) G A 7 0 0 (wX tc a (0) (n) (b) (ec) (lt) (updN zs w q) (g) (zr) (zo) (zi) (i) (mm) (mp) (mz) (un)) [some (.ref (a 0)), some (.int x), some (.int (bI v)), some (.int y), some (.int z), some (.int (nI w)), some (.int (nI k))] 112 [] := by
                  intro n2
                  induction n2 with
                  | zero =>
                    intro k g hk hg
                    have hk : k = q := hk
                    have hg : g = zwG y q w q 0 zw := hg
                    refine xiload_6 C dX6_setWord_112 ?_
                    refine xiload_4 C dX6_setWord_114 ?_
                    refine xicmp_ge C (tgt := 153) dX6_setWord_116 (by decide) (fun h116 => ?_) (fun h116 => ?_)
                    · skip
                      refine xaload_0 C dX6_setWord_153 ?_
                      refine xiconst C (0) dX6_setWord_154 (by decide) ?_
                      refine xput C 0 (wX tc a (0) (n) (b) (ec) (lt) (updN zs w q) (g) (zr) (zo) (zi) (fgI i) (mm) (mp) (mz) (un)) fw_X6_84 dX6_setWord_155 rfl (Nat.le_of_ble_eq_true rfl) rfl rfl rfl ?_
                      refine xaload_0 C dX6_setWord_158 ?_
                      refine xiload_1 C dX6_setWord_159 ?_
                      refine xtop (w := .int (nI j6)) (congrArg Value.int hxj) ?_
                      refine xcallViA C m_X6_isComplete k_X6_87 (c_X6_isComplete l G tc a (0) (n) (b) (ec) (lt) (updN zs w q) (g) (zr) (zo) (zi) (fgI i) (mm) (mp) (mz) (un) hz2 j6 hj6) dX6_setWord_160 0 rfl rfl rfl (by decide) rfl (Nat.le_of_ble_eq_true rfl) ⟨by decide, by decide⟩ ?_
                      exact xzret C dX6_setWord_163 (by first | rfl | exact bI_nar _) (by rw [if_pos hT0, hsw, hzc, hxc]) (by rw [if_pos hT0, if_pos hT0, if_pos hT0, hT0, hsw, hzc, hg])
                    · skip
                      exact absurd (show z ≤ nI k from by rw [hzq, hk]; exact Int32.le_refl _) h116
                  | succ n2 ih =>
                    intro k g hk hg
                    rw [zwG] at hg
                    have hkq : k < q := by omega
                    refine xiload_6 C dX6_setWord_112 ?_
                    refine xiload_4 C dX6_setWord_114 ?_
                    refine xicmp_ge C (tgt := 153) dX6_setWord_116 (by decide) (fun h116 => ?_) (fun h116 => ?_)
                    · skip
                      exact absurd h116 (by rw [hzq]; exact nI_ge hkq (by omega))
                    · skip
                      refine xaload_0 C dX6_setWord_119 ?_
                      refine xget C 0 f_X6_24 dX6_setWord_120 rfl rfl ?_
                      refine xiconst C (nI 3) dX6_setWord_123 (by decide) ?_
                      refine xiload_5 C dX6_setWord_124 ?_
                      refine ximul C dX6_setWord_126 ?_
                      refine xiload_6 C dX6_setWord_127 ?_
                      refine xiadd C dX6_setWord_129 ?_
                      refine xiload_3 C dX6_setWord_130 ?_
                      refine xbipush C (nI 8) dX6_setWord_131 (by decide) ?_
                      refine xiload_4 C dX6_setWord_133 ?_
                      refine xiconst C (nI 1) dX6_setWord_135 (by decide) ?_
                      refine xisub C dX6_setWord_136 ?_
                      refine xiload_6 C dX6_setWord_137 ?_
                      refine xisub C dX6_setWord_139 ?_
                      refine ximul C dX6_setWord_140 ?_
                      rw [show nI 8 * (z - nI 1 - nI k) = nI (8 * (q - 1 - k)) from by rw [hzq, pk_sub (a := q) (b := 1) (by omega), pk_sub (by omega), pk_mul]]
                      refine xishr C dX6_setWord_141 ?_
                      refine xsipush C (255) dX6_setWord_142 (by decide) ?_
                      refine xiand C dX6_setWord_145 ?_
                      refine xiastN C (3 * w + k) 3 (wX tc a (0) (n) (b) (ec) (lt) (updN zs w q) (upd g (3 * w + k) (wkm y (q - 1 - k))) (zr) (zo) (zi) (i) (mm) (mp) (mz) (un)) dX6_setWord_146 rfl (by omega) (by rw [pk_mul, nI_add]) (by decide) rfl ?_
                      refine xiinc_6 C (nI (k + 1)) dX6_setWord_147 (nI_1 k) rfl (by decide) ?_
                      refine xgoto C (tgt := 112) dX6_setWord_150 (by decide) ?_
                      exact ih (k + 1) _ (by omega) hg
                refine xistore_5 C dX6_setWord_98 rfl (by decide) ?_
                refine xaload_0 C dX6_setWord_100 ?_
                refine xget C 0 f_X6_21 dX6_setWord_101 rfl rfl ?_
                refine xiload_5 C dX6_setWord_104 ?_
                refine xiload_4 C dX6_setWord_106 ?_
                refine xtop (w := .int (nI q)) (congrArg Value.int hzq) ?_
                refine xiastN C (w) 2 (wX tc a (0) (n) (b) (ec) (lt) (updN zs w q) (zw) (zr) (zo) (zi) (i) (mm) (mp) (mz) (un)) dX6_setWord_108 rfl (hw12) (rfl) (by decide) (by rw [updN_eq]; rfl) ?_
                refine xiconst C (nI 0) dX6_setWord_109 (by decide) ?_
                refine xistore_6 C dX6_setWord_110 rfl (by decide) ?_
                exact loop2 q 0 zw (by omega) rfl
              · skip
                have h87 := bI1 h87
                have hsv : swI x v = 6 + j6 := by rw [swI, if_pos h87, hxc]
                refine xbipush C (nI 6) dX6_setWord_90 (by decide) ?_
                refine xiload_1 C dX6_setWord_92 ?_
                refine xiadd C dX6_setWord_93 ?_
                refine xgoto C (tgt := 98) dX6_setWord_94 (by decide) ?_
                refine xtop (w := .int (nI w)) (congrArg Value.int (by rw [hxj, nI_add, ← hsw, hsv])) ?_
                have hw12 : w < 12 := by omega
                have loop2 : ∀ (n2 k : Nat) (g : Nat → Int32), k + n2 = q → zwG y q w n2 k g = zwG y q w q 0 zw → xAT p l e (xR 2 0 0) s m args below meth c (xQi below args s G A (bI (if swTm x y z = 0 then cplM (updN zs (swI x v) z.toNatClampNeg) x.toNatClampNeg else false)) (wX tc a (swTm x y z) (n) (b) (ec) (lt) (if swTm x y z = 0 then updN zs (swI x v) z.toNatClampNeg else zs) (if swTm x y z = 0 then zwG y z.toNatClampNeg (swI x v) z.toNatClampNeg 0 zw else zw) (zr) (zo) (zi) (if swTm x y z = 0 then fgI i else i) (mm) (mp) (mz) (un))) G A 7 0 0 (wX tc a (0) (n) (b) (ec) (lt) (updN zs w q) (g) (zr) (zo) (zi) (i) (mm) (mp) (mz) (un)) [some (.ref (a 0)), some (.int x), some (.int (bI v)), some (.int y), some (.int z), some (.int (nI w)), some (.int (nI k))] 112 [] := by
                  intro n2
                  induction n2 with
                  | zero =>
                    intro k g hk hg
                    have hk : k = q := hk
                    have hg : g = zwG y q w q 0 zw := hg
                    refine xiload_6 C dX6_setWord_112 ?_
                    refine xiload_4 C dX6_setWord_114 ?_
                    refine xicmp_ge C (tgt := 153) dX6_setWord_116 (by decide) (fun h116 => ?_) (fun h116 => ?_)
                    · skip
                      refine xaload_0 C dX6_setWord_153 ?_
                      refine xiconst C (0) dX6_setWord_154 (by decide) ?_
                      refine xput C 0 (wX tc a (0) (n) (b) (ec) (lt) (updN zs w q) (g) (zr) (zo) (zi) (fgI i) (mm) (mp) (mz) (un)) fw_X6_84 dX6_setWord_155 rfl (Nat.le_of_ble_eq_true rfl) rfl rfl rfl ?_
                      refine xaload_0 C dX6_setWord_158 ?_
                      refine xiload_1 C dX6_setWord_159 ?_
                      refine xtop (w := .int (nI j6)) (congrArg Value.int hxj) ?_
                      refine xcallViA C m_X6_isComplete k_X6_87 (c_X6_isComplete l G tc a (0) (n) (b) (ec) (lt) (updN zs w q) (g) (zr) (zo) (zi) (fgI i) (mm) (mp) (mz) (un) hz2 j6 hj6) dX6_setWord_160 0 rfl rfl rfl (by decide) rfl (Nat.le_of_ble_eq_true rfl) ⟨by decide, by decide⟩ ?_
                      exact xzret C dX6_setWord_163 (by first | rfl | exact bI_nar _) (by rw [if_pos hT0, hsw, hzc, hxc]) (by rw [if_pos hT0, if_pos hT0, if_pos hT0, hT0, hsw, hzc, hg])
                    · skip
                      exact absurd (show z ≤ nI k from by rw [hzq, hk]; exact Int32.le_refl _) h116
                  | succ n2 ih =>
                    intro k g hk hg
                    rw [zwG] at hg
                    have hkq : k < q := by omega
                    refine xiload_6 C dX6_setWord_112 ?_
                    refine xiload_4 C dX6_setWord_114 ?_
                    refine xicmp_ge C (tgt := 153) dX6_setWord_116 (by decide) (fun h116 => ?_) (fun h116 => ?_)
                    · skip
                      exact absurd h116 (by rw [hzq]; exact nI_ge hkq (by omega))
                    · skip
                      refine xaload_0 C dX6_setWord_119 ?_
                      refine xget C 0 f_X6_24 dX6_setWord_120 rfl rfl ?_
                      refine xiconst C (nI 3) dX6_setWord_123 (by decide) ?_
                      refine xiload_5 C dX6_setWord_124 ?_
                      refine ximul C dX6_setWord_126 ?_
                      refine xiload_6 C dX6_setWord_127 ?_
                      refine xiadd C dX6_setWord_129 ?_
                      refine xiload_3 C dX6_setWord_130 ?_
                      refine xbipush C (nI 8) dX6_setWord_131 (by decide) ?_
                      refine xiload_4 C dX6_setWord_133 ?_
                      refine xiconst C (nI 1) dX6_setWord_135 (by decide) ?_
                      refine xisub C dX6_setWord_136 ?_
                      refine xiload_6 C dX6_setWord_137 ?_
                      refine xisub C dX6_setWord_139 ?_
                      refine ximul C dX6_setWord_140 ?_
                      rw [show nI 8 * (z - nI 1 - nI k) = nI (8 * (q - 1 - k)) from by rw [hzq, pk_sub (a := q) (b := 1) (by omega), pk_sub (by omega), pk_mul]]
                      refine xishr C dX6_setWord_141 ?_
                      refine xsipush C (255) dX6_setWord_142 (by decide) ?_
                      refine xiand C dX6_setWord_145 ?_
                      refine xiastN C (3 * w + k) 3 (wX tc a (0) (n) (b) (ec) (lt) (updN zs w q) (upd g (3 * w + k) (wkm y (q - 1 - k))) (zr) (zo) (zi) (i) (mm) (mp) (mz) (un)) dX6_setWord_146 rfl (by omega) (by rw [pk_mul, nI_add]) (by decide) rfl ?_
                      refine xiinc_6 C (nI (k + 1)) dX6_setWord_147 (nI_1 k) rfl (by decide) ?_
                      refine xgoto C (tgt := 112) dX6_setWord_150 (by decide) ?_
                      exact ih (k + 1) _ (by omega) hg
                refine xistore_5 C dX6_setWord_98 rfl (by decide) ?_
                refine xaload_0 C dX6_setWord_100 ?_
                refine xget C 0 f_X6_21 dX6_setWord_101 rfl rfl ?_
                refine xiload_5 C dX6_setWord_104 ?_
                refine xiload_4 C dX6_setWord_106 ?_
                refine xtop (w := .int (nI q)) (congrArg Value.int hzq) ?_
                refine xiastN C (w) 2 (wX tc a (0) (n) (b) (ec) (lt) (updN zs w q) (zw) (zr) (zo) (zi) (i) (mm) (mp) (mz) (un)) dX6_setWord_108 rfl (hw12) (rfl) (by decide) (by rw [updN_eq]; rfl) ?_
                refine xiconst C (nI 0) dX6_setWord_109 (by decide) ?_
                refine xistore_6 C dX6_setWord_110 rfl (by decide) ?_
                exact loop2 q 0 zw (by omega) rfl
            · skip
              exact absurd rfl h81
          · skip
            exact absurd (show z ≤ nI k from by rw [hzq, hk]; exact Int32.le_refl _) h39
        | succ f ih =>
          intro k hk hs
          rw [swT] at hs
          have hkq : k < q := by omega
          refine xiload_5 C dX6_setWord_35 ?_
          refine xiload_4 C dX6_setWord_37 ?_
          refine xicmp_ge C (tgt := 77) dX6_setWord_39 (by decide) (fun h39 => ?_) (fun h39 => ?_)
          · skip
            exact absurd h39 (by rw [hzq]; exact nI_ge hkq (by omega))
          · skip
            refine xaload_0 C dX6_setWord_42 ?_
            refine xget C 0 f_X6_64 dX6_setWord_43 rfl rfl ?_
            refine xif_ne C (tgt := 77) dX6_setWord_46 (by decide) (fun h46 => ?_) (fun h46 => ?_)
            · skip
              exact absurd rfl h46
            · skip
              refine xiload_3 C dX6_setWord_49 ?_
              refine xbipush C (nI 8) dX6_setWord_50 (by decide) ?_
              refine xiload_5 C dX6_setWord_52 ?_
              refine ximul C dX6_setWord_54 ?_
              rw [pk_mul 8 k]
              refine xishr C dX6_setWord_55 ?_
              refine xsipush C (255) dX6_setWord_56 (by decide) ?_
              refine xiand C dX6_setWord_59 ?_
              refine xtop (w := .int (wkm y k)) rfl ?_
              refine xcallSi0 C m_X6_isByte k_X6_73 (c_X6_isByte l G tc (wkm y k)) dX6_setWord_60 ([] : List Nat) rfl rfl rfl (by decide) rfl (Nat.le_of_ble_eq_true rfl) ⟨by decide, by decide⟩ ?_
              refine xif_ne C (tgt := 71) dX6_setWord_63 (by decide) (fun h63 => ?_) (fun h63 => ?_)
              · skip
                have h63 := bI1 h63
                refine xiinc_5 C (nI (k + 1)) dX6_setWord_71 (nI_1 k) rfl (by decide) ?_
                refine xgoto C (tgt := 35) dX6_setWord_74 (by decide) ?_
                exact ih (k + 1) (by omega) (by rw [← hs, if_pos h63])
              · skip
                have h63 := bI0 h63
                have hT2 : swTm x y z = 2 := by rw [← hs, if_neg (by rw [h63]; exact Bool.false_ne_true)]
                refine xaload_0 C dX6_setWord_66 ?_
                refine xiconst C (2) dX6_setWord_67 (by decide) ?_
                refine xput C 0 (wX tc a (2) (n) (b) (ec) (lt) (zs) (zw) (zr) (zo) (zi) (i) (mm) (mp) (mz) (un)) fw_X6_64 dX6_setWord_68 rfl (Nat.le_of_ble_eq_true rfl) rfl rfl rfl ?_
                refine xiinc_5 C (nI (k + 1)) dX6_setWord_71 (nI_1 k) rfl (by decide) ?_
                refine xgoto C (tgt := 35) dX6_setWord_74 (by decide) ?_
                refine xiload_5 C dX6_setWord_35 ?_
                refine xiload_4 C dX6_setWord_37 ?_
                refine xicmp_ge C (tgt := 77) dX6_setWord_39 (by decide) (fun h39 => ?_) (fun h39 => ?_)
                · skip
                  refine xaload_0 C dX6_setWord_77 ?_
                  refine xget C 0 f_X6_64 dX6_setWord_78 rfl rfl ?_
                  refine xif_eq C (tgt := 86) dX6_setWord_81 (by decide) (fun h81 => ?_) (fun h81 => ?_)
                  · skip
                    exact absurd h81 (by decide)
                  · skip
                    refine xiconst C (0) dX6_setWord_84 (by decide) ?_
                    exact xzret C dX6_setWord_85 (rfl) (by rw [hT2]; rfl) (by rw [hT2]; rfl)
                · skip
                  refine xaload_0 C dX6_setWord_42 ?_
                  refine xget C 0 f_X6_64 dX6_setWord_43 rfl rfl ?_
                  refine xif_ne C (tgt := 77) dX6_setWord_46 (by decide) (fun h46 => ?_) (fun h46 => ?_)
                  · skip
                    refine xaload_0 C dX6_setWord_77 ?_
                    refine xget C 0 f_X6_64 dX6_setWord_78 rfl rfl ?_
                    refine xif_eq C (tgt := 86) dX6_setWord_81 (by decide) (fun h81 => ?_) (fun h81 => ?_)
                    · skip
                      exact absurd h81 (by decide)
                    · skip
                      refine xiconst C (0) dX6_setWord_84 (by decide) ?_
                      exact xzret C dX6_setWord_85 (rfl) (by rw [hT2]; rfl) (by rw [hT2]; rfl)
                  · skip
                    exact absurd h46 (by decide)
      refine xput C 0 (wX tc a (0) (n) (b) (ec) (lt) (zs) (zw) (zr) (zo) (zi) (i) (mm) (mp) (mz) (un)) fw_X6_64 dX6_setWord_29 rfl (Nat.le_of_ble_eq_true rfl) rfl rfl rfl ?_
      refine xiconst C (nI 0) dX6_setWord_32 (by decide) ?_
      refine xistore_5 C dX6_setWord_33 rfl (by decide) ?_
      exact loop1 q 0 (by omega) hT1.symm
    · skip
      have h21 := bI0 h21
      refine xiconst C (2) dX6_setWord_24 (by decide) ?_
      refine xgoto C (tgt := 29) dX6_setWord_25 (by decide) ?_
      have hT2 : swTm x y z = 2 := by simp [swTm, inB6, h7, h21]
      refine xput C 0 (wX tc a (2) (n) (b) (ec) (lt) (zs) (zw) (zr) (zo) (zi) (i) (mm) (mp) (mz) (un)) fw_X6_64 dX6_setWord_29 rfl (Nat.le_of_ble_eq_true rfl) rfl rfl rfl ?_
      refine xiconst C (nI 0) dX6_setWord_32 (by decide) ?_
      refine xistore_5 C dX6_setWord_33 rfl (by decide) ?_
      refine xiload_5 C dX6_setWord_35 ?_
      refine xiload_4 C dX6_setWord_37 ?_
      refine xicmp_ge C (tgt := 77) dX6_setWord_39 (by decide) (fun h39 => ?_) (fun h39 => ?_)
      · skip
        refine xaload_0 C dX6_setWord_77 ?_
        refine xget C 0 f_X6_64 dX6_setWord_78 rfl rfl ?_
        refine xif_eq C (tgt := 86) dX6_setWord_81 (by decide) (fun h81 => ?_) (fun h81 => ?_)
        · skip
          exact absurd h81 (by decide)
        · skip
          refine xiconst C (0) dX6_setWord_84 (by decide) ?_
          exact xzret C dX6_setWord_85 (rfl) (by rw [hT2]; rfl) (by rw [hT2]; rfl)
      · skip
        refine xaload_0 C dX6_setWord_42 ?_
        refine xget C 0 f_X6_64 dX6_setWord_43 rfl rfl ?_
        refine xif_ne C (tgt := 77) dX6_setWord_46 (by decide) (fun h46 => ?_) (fun h46 => ?_)
        · skip
          refine xaload_0 C dX6_setWord_77 ?_
          refine xget C 0 f_X6_64 dX6_setWord_78 rfl rfl ?_
          refine xif_eq C (tgt := 86) dX6_setWord_81 (by decide) (fun h81 => ?_) (fun h81 => ?_)
          · skip
            exact absurd h81 (by decide)
          · skip
            refine xiconst C (0) dX6_setWord_84 (by decide) ?_
            exact xzret C dX6_setWord_85 (rfl) (by rw [hT2]; rfl) (by rw [hT2]; rfl)
        · skip
          exact absurd h46 (by decide)
  · skip
    have h7 := bI0 h7
    refine xiconst C (1) dX6_setWord_10 (by decide) ?_
    refine xgoto C (tgt := 29) dX6_setWord_11 (by decide) ?_
    have hT2 : swTm x y z = 1 := by simp [swTm, inB6, h7]
    refine xput C 0 (wX tc a (1) (n) (b) (ec) (lt) (zs) (zw) (zr) (zo) (zi) (i) (mm) (mp) (mz) (un)) fw_X6_64 dX6_setWord_29 rfl (Nat.le_of_ble_eq_true rfl) rfl rfl rfl ?_
    refine xiconst C (nI 0) dX6_setWord_32 (by decide) ?_
    refine xistore_5 C dX6_setWord_33 rfl (by decide) ?_
    refine xiload_5 C dX6_setWord_35 ?_
    refine xiload_4 C dX6_setWord_37 ?_
    refine xicmp_ge C (tgt := 77) dX6_setWord_39 (by decide) (fun h39 => ?_) (fun h39 => ?_)
    · skip
      refine xaload_0 C dX6_setWord_77 ?_
      refine xget C 0 f_X6_64 dX6_setWord_78 rfl rfl ?_
      refine xif_eq C (tgt := 86) dX6_setWord_81 (by decide) (fun h81 => ?_) (fun h81 => ?_)
      · skip
        exact absurd h81 (by decide)
      · skip
        refine xiconst C (0) dX6_setWord_84 (by decide) ?_
        exact xzret C dX6_setWord_85 (rfl) (by rw [hT2]; rfl) (by rw [hT2]; rfl)
    · skip
      refine xaload_0 C dX6_setWord_42 ?_
      refine xget C 0 f_X6_64 dX6_setWord_43 rfl rfl ?_
      refine xif_ne C (tgt := 77) dX6_setWord_46 (by decide) (fun h46 => ?_) (fun h46 => ?_)
      · skip
        refine xaload_0 C dX6_setWord_77 ?_
        refine xget C 0 f_X6_64 dX6_setWord_78 rfl rfl ?_
        refine xif_eq C (tgt := 86) dX6_setWord_81 (by decide) (fun h81 => ?_) (fun h81 => ?_)
        · skip
          exact absurd h81 (by decide)
        · skip
          refine xiconst C (0) dX6_setWord_84 (by decide) ?_
          exact xzret C dX6_setWord_85 (rfl) (by rw [hT2]; rfl) (by rw [hT2]; rfl)
      · skip
        exact absurd h46 (by decide)
