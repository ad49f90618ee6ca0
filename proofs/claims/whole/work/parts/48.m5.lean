set_option maxHeartbeats 4000000 in
set_option maxRecDepth 100000 in
theorem c_X6_findMarks (l : Launch) (G : va_G) (tc : Nat → ClassId) (a : Nat → Nat) (th : Int32) (n : Nat) (b : Nat → Int32) (ec : Int32) (lt : Bool) (zs : Nat → Nat) (zw : Nat → Int32) (zr zo : Nat → Bool) (zi : Nat → Int32) (i : IS) (mm : Nat) (mp mz un : Nat → Nat) (hz : ∀ w, zs w ≤ 3) (hn : n ≤ 48) (r : Nat × (Nat → Nat) × (Nat → Nat)) (hr : fmMG b n ec zs zw n 0 (0, mp, mz) = r) : kV l yX6_findMarks (xw yX6_findMarks cX6_findMarks 4 none) 1 G tc [.ref (a 0)] (wX tc a (th) (n) (b) (ec) (lt) (zs) (zw) (zr) (zo) (zi) (i) (mm) (mp) (mz) (un)) (wX tc a (th) (n) (b) (ec) (lt) (zs) (zw) (zr) (zo) (zi) (i) (r.1) (r.2.1) (r.2.2) (un)) := by
  refine kV_of [some (.ref (a 0)), none, none, none] 3 (by decide) (Nat.le_of_ble_eq_true rfl) rfl ?_
  intro p e s m args below meth c A C
  have loop : ∀ (f j : Nat) (q : Nat × (Nat → Nat) × (Nat → Nat)), n ≤ j + f → j ≤ 60 → q.1 ≤ j → fmMG b n ec zs zw f j q = r → xAT p l e (xR 1 0 0) s m args below meth c (xQv below args s G A (wX tc a (th) (n) (b) (ec) (lt) (zs) (zw) (zr) (zo) (zi) (i) (r.1) (r.2.1) (r.2.2) (un))) G A 4 0 0 (wX tc a (th) (n) (b) (ec) (lt) (zs) (zw) (zr) (zo) (zi) (i) (q.1) (q.2.1) (q.2.2) (un)) [some (.ref (a 0)), some (.int (nI j)), none, none] 7 [] := by
    intro f
    induction f with
    | zero =>
      intro j q hf hj60 hq hr
      have hr : q = r := hr
      subst hr
      refine xiload_1 C dX6_findMarks_7 ?_
      refine xaload_0 C dX6_findMarks_8 ?_
      refine xget C 0 f_X6_81 dX6_findMarks_9 rfl rfl ?_
      refine xicmp_ge C (tgt := 163) dX6_findMarks_12 (by decide) (fun h12 => ?_) (fun h12 => ?_)
      · skip
        exact xvret C dX6_findMarks_163 (rfl)
      · skip
        exact absurd (show nI n ≤ nI j from nI_le (by omega) (by omega)) h12
    | succ f ih =>
      intro j q hf hj60 hq hr
      rw [fmMG] at hr
      rcases Nat.lt_or_ge j n with hjn | hjn
      · rw [if_pos hjn] at hr
        by_cases hesc : b j = ec
        · rw [if_pos hesc] at hr
          refine xiload_1 C dX6_findMarks_7 ?_
          refine xaload_0 C dX6_findMarks_8 ?_
          refine xget C 0 f_X6_81 dX6_findMarks_9 rfl rfl ?_
          refine xicmp_ge C (tgt := 163) dX6_findMarks_12 (by decide) (fun h12 => ?_) (fun h12 => ?_)
          · skip
            exact absurd h12 (nI_ge hjn (by omega))
          · skip
            refine xiconst C (nI 0) dX6_findMarks_15 (by decide) ?_
            refine xistore_2 C dX6_findMarks_16 rfl (by decide) ?_
            refine xiconst C (nI 0) dX6_findMarks_17 (by decide) ?_
            refine xistore_3 C dX6_findMarks_18 rfl (by decide) ?_
            refine xiload_3 C dX6_findMarks_19 ?_
            refine xbipush C (6) dX6_findMarks_20 (by decide) ?_
            refine xicmp_ge C (tgt := 101) dX6_findMarks_22 (by decide) (fun h22 => ?_) (fun h22 => ?_)
            · skip
              exact absurd h22 (by decide)
            · skip
              refine xaload_0 C dX6_findMarks_25 ?_
              refine xget C 0 f_X6_9 dX6_findMarks_26 rfl rfl ?_
              refine xiload_1 C dX6_findMarks_29 ?_
              refine xialdN C (j) 1 dX6_findMarks_30 rfl (by omega) (rfl) (by decide) ?_
              refine xaload_0 C dX6_findMarks_31 ?_
              refine xget C 0 f_X6_13 dX6_findMarks_32 rfl rfl ?_
              refine xicmp_eq C (tgt := 101) dX6_findMarks_35 (by decide) (fun h35 => ?_) (fun h35 => ?_)
              · skip
                refine xiload_2 C dX6_findMarks_101 ?_
                refine xif_le C (tgt := 135) dX6_findMarks_102 (by decide) (fun h102 => ?_) (fun h102 => ?_)
                · skip
                  refine xiload_1 C dX6_findMarks_135 ?_
                  refine xaload_0 C dX6_findMarks_136 ?_
                  refine xget C 0 f_X6_9 dX6_findMarks_137 rfl rfl ?_
                  refine xiload_1 C dX6_findMarks_140 ?_
                  refine xialdN C (j) 1 dX6_findMarks_141 rfl (by omega) (rfl) (by decide) ?_
                  refine xaload_0 C dX6_findMarks_142 ?_
                  refine xget C 0 f_X6_13 dX6_findMarks_143 rfl rfl ?_
                  refine xicmp_ne C (tgt := 153) dX6_findMarks_146 (by decide) (fun h146 => ?_) (fun h146 => ?_)
                  · skip
                    exact absurd hesc h146
                  · skip
                    refine xiconst C (nI 2) dX6_findMarks_149 (by decide) ?_
                    refine xgoto C (tgt := 158) dX6_findMarks_150 (by decide) ?_
                    refine xiadd C dX6_findMarks_158 ?_
                    refine xtop (w := .int (nI (j + 2))) (congrArg Value.int (nI_add j 2)) ?_
                    refine xistore_1 C dX6_findMarks_159 rfl (by decide) ?_
                    refine xgoto C (tgt := 7) dX6_findMarks_160 (by decide) ?_
                    refine xfg_2 ?_
                    refine xfg_3 ?_
                    exact ih (j + 2) q (by omega) (by omega) (by omega) hr
                · skip
                  exact absurd (by decide) h102
              · skip
                exact absurd hesc h35
        · rw [if_neg hesc] at hr
          have loopK : ∀ (g k L : Nat), k + g = 6 → L ≤ 3 → mlMG b n ec zs zw j g k L = mlM b n ec zs zw j → xAT p l e (xR 1 0 0) s m args below meth c (xQv below args s G A (wX tc a (th) (n) (b) (ec) (lt) (zs) (zw) (zr) (zo) (zi) (i) (r.1) (r.2.1) (r.2.2) (un))) G A 4 0 0 (wX tc a (th) (n) (b) (ec) (lt) (zs) (zw) (zr) (zo) (zi) (i) (q.1) (q.2.1) (q.2.2) (un)) [some (.ref (a 0)), some (.int (nI j)), some (.int (nI L)), some (.int (nI k))] 19 [] := by
            intro g
            induction g with
            | zero =>
              intro k L hk hL hl
              have hk : k = 6 := hk
              subst hk
              have hl : L = mlM b n ec zs zw j := hl
              refine xiload_3 C dX6_findMarks_19 ?_
              refine xbipush C (6) dX6_findMarks_20 (by decide) ?_
              refine xicmp_ge C (tgt := 101) dX6_findMarks_22 (by decide) (fun h22 => ?_) (fun h22 => ?_)
              · skip
                refine xiload_2 C dX6_findMarks_101 ?_
                refine xif_le C (tgt := 135) dX6_findMarks_102 (by decide) (fun h102 => ?_) (fun h102 => ?_)
                · skip
                  refine xiload_1 C dX6_findMarks_135 ?_
                  refine xaload_0 C dX6_findMarks_136 ?_
                  refine xget C 0 f_X6_9 dX6_findMarks_137 rfl rfl ?_
                  refine xiload_1 C dX6_findMarks_140 ?_
                  refine xialdN C (j) 1 dX6_findMarks_141 rfl (by omega) (rfl) (by decide) ?_
                  refine xaload_0 C dX6_findMarks_142 ?_
                  refine xget C 0 f_X6_13 dX6_findMarks_143 rfl rfl ?_
                  refine xicmp_ne C (tgt := 153) dX6_findMarks_146 (by decide) (fun h146 => ?_) (fun h146 => ?_)
                  · skip
                    refine xiconst C (nI 1) dX6_findMarks_153 (by decide) ?_
                    refine xiload_2 C dX6_findMarks_154 ?_
                    refine xmmax C dX6_findMarks_155 k_X6_119 (Nat.le_of_ble_eq_true rfl) ⟨by decide, by decide⟩ ?_
                    refine xtop (w := .int (nI (mxx 1 L))) (congrArg Value.int (nI_mxx (by decide) (by omega))) ?_
                    refine xiadd C dX6_findMarks_158 ?_
                    refine xtop (w := .int (nI (j + mxx 1 L))) (congrArg Value.int (nI_add j _)) ?_
                    refine xistore_1 C dX6_findMarks_159 rfl (by decide) ?_
                    refine xgoto C (tgt := 7) dX6_findMarks_160 (by decide) ?_
                    have h1m := mxx_1 L
                    have h3m := mxx_le (x := 1) (y := L) (z := 3) (by decide) hL
                    have hL0 : L = 0 := nI_le0 h102 (by omega)
                    rw [fmMS, if_pos (by omega)] at hr
                    refine xfg_2 ?_
                    refine xfg_3 ?_
                    exact ih (j + mxx 1 L) q (by omega) (by omega) (by omega) (by rw [hl]; exact hr)
                  · skip
                    exact absurd h146 hesc
                · skip
                  refine xaload_0 C dX6_findMarks_105 ?_
                  refine xget C 0 f_X6_55 dX6_findMarks_106 rfl rfl ?_
                  refine xaload_0 C dX6_findMarks_109 ?_
                  refine xget C 0 f_X6_116 dX6_findMarks_110 rfl rfl ?_
                  refine xiload_1 C dX6_findMarks_113 ?_
                  refine xiastN C (q.1) 13 (wX tc a (th) (n) (b) (ec) (lt) (zs) (zw) (zr) (zo) (zi) (i) (q.1) (updN q.2.1 q.1 j) (q.2.2) (un)) dX6_findMarks_114 rfl (by omega) (rfl) (by decide) (by rw [updN_eq]; rfl) ?_
                  refine xaload_0 C dX6_findMarks_115 ?_
                  refine xget C 0 f_X6_58 dX6_findMarks_116 rfl rfl ?_
                  refine xaload_0 C dX6_findMarks_119 ?_
                  refine xget C 0 f_X6_116 dX6_findMarks_120 rfl rfl ?_
                  refine xiload_2 C dX6_findMarks_123 ?_
                  refine xiastN C (q.1) 14 (wX tc a (th) (n) (b) (ec) (lt) (zs) (zw) (zr) (zo) (zi) (i) (q.1) (updN q.2.1 q.1 j) (updN q.2.2 q.1 L) (un)) dX6_findMarks_124 rfl (by omega) (rfl) (by decide) (by rw [updN_eq]; rfl) ?_
                  refine xaload_0 C dX6_findMarks_125 ?_
                  refine xdup C dX6_findMarks_126 rfl ?_
                  refine xget C 0 f_X6_116 dX6_findMarks_127 rfl rfl ?_
                  refine xiconst C (1) dX6_findMarks_130 (by decide) ?_
                  refine xiadd C dX6_findMarks_131 ?_
                  refine xtop (w := .int (nI (q.1 + 1))) (congrArg Value.int (nI_1 _)) ?_
                  refine xput C 0 (wX tc a (th) (n) (b) (ec) (lt) (zs) (zw) (zr) (zo) (zi) (i) (q.1 + 1) (updN q.2.1 q.1 j) (updN q.2.2 q.1 L) (un)) fw_X6_116 dX6_findMarks_132 rfl (Nat.le_of_ble_eq_true rfl) rfl rfl rfl ?_
                  refine xiload_1 C dX6_findMarks_135 ?_
                  refine xaload_0 C dX6_findMarks_136 ?_
                  refine xget C 0 f_X6_9 dX6_findMarks_137 rfl rfl ?_
                  refine xiload_1 C dX6_findMarks_140 ?_
                  refine xialdN C (j) 1 dX6_findMarks_141 rfl (by omega) (rfl) (by decide) ?_
                  refine xaload_0 C dX6_findMarks_142 ?_
                  refine xget C 0 f_X6_13 dX6_findMarks_143 rfl rfl ?_
                  refine xicmp_ne C (tgt := 153) dX6_findMarks_146 (by decide) (fun h146 => ?_) (fun h146 => ?_)
                  · skip
                    refine xiconst C (nI 1) dX6_findMarks_153 (by decide) ?_
                    refine xiload_2 C dX6_findMarks_154 ?_
                    refine xmmax C dX6_findMarks_155 k_X6_119 (Nat.le_of_ble_eq_true rfl) ⟨by decide, by decide⟩ ?_
                    refine xtop (w := .int (nI (mxx 1 L))) (congrArg Value.int (nI_mxx (by decide) (by omega))) ?_
                    refine xiadd C dX6_findMarks_158 ?_
                    refine xtop (w := .int (nI (j + mxx 1 L))) (congrArg Value.int (nI_add j _)) ?_
                    refine xistore_1 C dX6_findMarks_159 rfl (by decide) ?_
                    refine xgoto C (tgt := 7) dX6_findMarks_160 (by decide) ?_
                    have h1m := mxx_1 L
                    have h3m := mxx_le (x := 1) (y := L) (z := 3) (by decide) hL
                    have hL0 : ¬ L = 0 := nI_nle0 h102
                    rw [fmMS, if_neg (by omega), ← hl] at hr
                    refine xfg_2 ?_
                    refine xfg_3 ?_
                    exact ih (j + mxx 1 L) (q.1 + 1, updN q.2.1 q.1 j, updN q.2.2 q.1 L) (by omega) (by omega) (by show q.1 + 1 ≤ _; omega) hr
                  · skip
                    exact absurd h146 hesc
              · skip
                exact absurd (Int32.le_refl _) h22
            | succ g ihK =>
              intro k L hk hL hl
              rw [mlMG] at hl
              have hk6 : k < 6 := by omega
              have hzk := hz k
              have hzk6 := hz (6 + k)
              have hmx := mxx_le (z := 3) hL hzk
              refine xiload_3 C dX6_findMarks_19 ?_
              refine xbipush C (6) dX6_findMarks_20 (by decide) ?_
              refine xicmp_ge C (tgt := 101) dX6_findMarks_22 (by decide) (fun h22 => ?_) (fun h22 => ?_)
              · skip
                exact absurd h22 (nI_ge hk6 (by decide))
              · skip
                refine xaload_0 C dX6_findMarks_25 ?_
                refine xget C 0 f_X6_9 dX6_findMarks_26 rfl rfl ?_
                refine xiload_1 C dX6_findMarks_29 ?_
                refine xialdN C (j) 1 dX6_findMarks_30 rfl (by omega) (rfl) (by decide) ?_
                refine xaload_0 C dX6_findMarks_31 ?_
                refine xget C 0 f_X6_13 dX6_findMarks_32 rfl rfl ?_
                refine xicmp_eq C (tgt := 101) dX6_findMarks_35 (by decide) (fun h35 => ?_) (fun h35 => ?_)
                · skip
                  exact absurd h35 hesc
                · skip
                  refine xaload_0 C dX6_findMarks_38 ?_
                  refine xiload_3 C dX6_findMarks_39 ?_
                  refine xcallViA C m_X6_isComplete k_X6_87 (c_X6_isComplete l G tc a (th) (n) (b) (ec) (lt) (zs) (zw) (zr) (zo) (zi) (i) (q.1) (q.2.1) (q.2.2) (un) hz k hk6) dX6_findMarks_40 0 rfl rfl rfl (by decide) rfl (Nat.le_of_ble_eq_true rfl) ⟨by decide, by decide⟩ ?_
                  refine xif_ne C (tgt := 49) dX6_findMarks_43 (by decide) (fun h43 => ?_) (fun h43 => ?_)
                  · skip
                    have h43 := bI1 h43
                    refine xaload_0 C dX6_findMarks_49 ?_
                    refine xiload_3 C dX6_findMarks_50 ?_
                    refine xiload_1 C dX6_findMarks_51 ?_
                    refine xcallViA C m_X6_stands k_X6_96 (c_X6_stands l G tc a (th) (n) (b) (ec) (lt) (zs) (zw) (zr) (zo) (zi) (i) (q.1) (q.2.1) (q.2.2) (un) hz hn k j (by omega) (by omega)) dX6_findMarks_52 0 rfl rfl rfl (by decide) rfl (Nat.le_of_ble_eq_true rfl) ⟨by decide, by decide⟩ ?_
                    refine xif_eq C (tgt := 69) dX6_findMarks_55 (by decide) (fun h55 => ?_) (fun h55 => ?_)
                    · skip
                      have h55 := bI0 h55
                      refine xaload_0 C dX6_findMarks_69 ?_
                      refine xbipush C (nI 6) dX6_findMarks_70 (by decide) ?_
                      refine xiload_3 C dX6_findMarks_72 ?_
                      refine xiadd C dX6_findMarks_73 ?_
                      rw [nI_add 6 k]
                      refine xiload_1 C dX6_findMarks_74 ?_
                      refine xcallViA C m_X6_stands k_X6_96 (c_X6_stands l G tc a (th) (n) (b) (ec) (lt) (zs) (zw) (zr) (zo) (zi) (i) (q.1) (q.2.1) (q.2.2) (un) hz hn (6 + k) j (by omega) (by omega)) dX6_findMarks_75 0 rfl rfl rfl (by decide) rfl (Nat.le_of_ble_eq_true rfl) ⟨by decide, by decide⟩ ?_
                      refine xif_eq C (tgt := 95) dX6_findMarks_78 (by decide) (fun h78 => ?_) (fun h78 => ?_)
                      · skip
                        have h78 := bI0 h78
                        refine xiinc_3 C (nI (k + 1)) dX6_findMarks_95 (nI_1 k) rfl (by decide) ?_
                        refine xgoto C (tgt := 19) dX6_findMarks_98 (by decide) ?_
                        have hs : mlS b n ec zs zw j k L = L := by rw [mlS, if_pos h43, if_neg (by rw [h78]; exact Bool.false_ne_true), mlS1, if_neg (by rw [h55]; exact Bool.false_ne_true)]
                        have hb : L ≤ 3 := by rw [← hs]; exact mlS_le hz hL
                        rw [hs] at hl
                        exact ihK (k + 1) _ (by omega) hb hl
                      · skip
                        have h78 := bI1 h78
                        refine xiload_2 C dX6_findMarks_81 ?_
                        refine xaload_0 C dX6_findMarks_82 ?_
                        refine xget C 0 f_X6_21 dX6_findMarks_83 rfl rfl ?_
                        refine xbipush C (nI 6) dX6_findMarks_86 (by decide) ?_
                        refine xiload_3 C dX6_findMarks_88 ?_
                        refine xiadd C dX6_findMarks_89 ?_
                        refine xialdN C (6 + k) 2 dX6_findMarks_90 rfl (by omega) (nI_add 6 k) (by decide) ?_
                        refine xmmax C dX6_findMarks_91 k_X6_119 (Nat.le_of_ble_eq_true rfl) ⟨by decide, by decide⟩ ?_
                        refine xtop (congrArg Value.int (nI_mxx (by omega) (by omega))) ?_
                        refine xistore_2 C dX6_findMarks_94 rfl (by decide) ?_
                        refine xiinc_3 C (nI (k + 1)) dX6_findMarks_95 (nI_1 k) rfl (by decide) ?_
                        refine xgoto C (tgt := 19) dX6_findMarks_98 (by decide) ?_
                        have hs : mlS b n ec zs zw j k L = mxx (L) (zs (6 + k)) := by rw [mlS, if_pos h43, if_pos h78, mlS1, if_neg (by rw [h55]; exact Bool.false_ne_true)]
                        have hb : mxx (L) (zs (6 + k)) ≤ 3 := by rw [← hs]; exact mlS_le hz hL
                        rw [hs] at hl
                        exact ihK (k + 1) _ (by omega) hb hl
                    · skip
                      have h55 := bI1 h55
                      refine xiload_2 C dX6_findMarks_58 ?_
                      refine xaload_0 C dX6_findMarks_59 ?_
                      refine xget C 0 f_X6_21 dX6_findMarks_60 rfl rfl ?_
                      refine xiload_3 C dX6_findMarks_63 ?_
                      refine xialdN C (k) 2 dX6_findMarks_64 rfl (by omega) (rfl) (by decide) ?_
                      refine xmmax C dX6_findMarks_65 k_X6_119 (Nat.le_of_ble_eq_true rfl) ⟨by decide, by decide⟩ ?_
                      refine xtop (congrArg Value.int (nI_mxx (by omega) (by omega))) ?_
                      refine xistore_2 C dX6_findMarks_68 rfl (by decide) ?_
                      refine xaload_0 C dX6_findMarks_69 ?_
                      refine xbipush C (nI 6) dX6_findMarks_70 (by decide) ?_
                      refine xiload_3 C dX6_findMarks_72 ?_
                      refine xiadd C dX6_findMarks_73 ?_
                      rw [nI_add 6 k]
                      refine xiload_1 C dX6_findMarks_74 ?_
                      refine xcallViA C m_X6_stands k_X6_96 (c_X6_stands l G tc a (th) (n) (b) (ec) (lt) (zs) (zw) (zr) (zo) (zi) (i) (q.1) (q.2.1) (q.2.2) (un) hz hn (6 + k) j (by omega) (by omega)) dX6_findMarks_75 0 rfl rfl rfl (by decide) rfl (Nat.le_of_ble_eq_true rfl) ⟨by decide, by decide⟩ ?_
                      refine xif_eq C (tgt := 95) dX6_findMarks_78 (by decide) (fun h78 => ?_) (fun h78 => ?_)
                      · skip
                        have h78 := bI0 h78
                        refine xiinc_3 C (nI (k + 1)) dX6_findMarks_95 (nI_1 k) rfl (by decide) ?_
                        refine xgoto C (tgt := 19) dX6_findMarks_98 (by decide) ?_
                        have hs : mlS b n ec zs zw j k L = mxx L (zs k) := by rw [mlS, if_pos h43, if_neg (by rw [h78]; exact Bool.false_ne_true), mlS1, if_pos h55]
                        have hb : mxx L (zs k) ≤ 3 := by rw [← hs]; exact mlS_le hz hL
                        rw [hs] at hl
                        exact ihK (k + 1) _ (by omega) hb hl
                      · skip
                        have h78 := bI1 h78
                        refine xiload_2 C dX6_findMarks_81 ?_
                        refine xaload_0 C dX6_findMarks_82 ?_
                        refine xget C 0 f_X6_21 dX6_findMarks_83 rfl rfl ?_
                        refine xbipush C (nI 6) dX6_findMarks_86 (by decide) ?_
                        refine xiload_3 C dX6_findMarks_88 ?_
                        refine xiadd C dX6_findMarks_89 ?_
                        refine xialdN C (6 + k) 2 dX6_findMarks_90 rfl (by omega) (nI_add 6 k) (by decide) ?_
                        refine xmmax C dX6_findMarks_91 k_X6_119 (Nat.le_of_ble_eq_true rfl) ⟨by decide, by decide⟩ ?_
                        refine xtop (congrArg Value.int (nI_mxx (by omega) (by omega))) ?_
                        refine xistore_2 C dX6_findMarks_94 rfl (by decide) ?_
                        refine xiinc_3 C (nI (k + 1)) dX6_findMarks_95 (nI_1 k) rfl (by decide) ?_
                        refine xgoto C (tgt := 19) dX6_findMarks_98 (by decide) ?_
                        have hs : mlS b n ec zs zw j k L = mxx (mxx L (zs k)) (zs (6 + k)) := by rw [mlS, if_pos h43, if_pos h78, mlS1, if_pos h55]
                        have hb : mxx (mxx L (zs k)) (zs (6 + k)) ≤ 3 := by rw [← hs]; exact mlS_le hz hL
                        rw [hs] at hl
                        exact ihK (k + 1) _ (by omega) hb hl
                  · skip
                    have h43 := bI0 h43
                    refine xgoto C (tgt := 95) dX6_findMarks_46 (by decide) ?_
                    refine xiinc_3 C (nI (k + 1)) dX6_findMarks_95 (nI_1 k) rfl (by decide) ?_
                    refine xgoto C (tgt := 19) dX6_findMarks_98 (by decide) ?_
                    have hs : mlS b n ec zs zw j k L = L := by rw [mlS, if_neg (by rw [h43]; exact Bool.false_ne_true)]
                    rw [hs] at hl
                    exact ihK (k + 1) L (by omega) hL hl
          refine xiload_1 C dX6_findMarks_7 ?_
          refine xaload_0 C dX6_findMarks_8 ?_
          refine xget C 0 f_X6_81 dX6_findMarks_9 rfl rfl ?_
          refine xicmp_ge C (tgt := 163) dX6_findMarks_12 (by decide) (fun h12 => ?_) (fun h12 => ?_)
          · skip
            exact absurd h12 (nI_ge hjn (by omega))
          · skip
            refine xiconst C (nI 0) dX6_findMarks_15 (by decide) ?_
            refine xistore_2 C dX6_findMarks_16 rfl (by decide) ?_
            refine xiconst C (nI 0) dX6_findMarks_17 (by decide) ?_
            refine xistore_3 C dX6_findMarks_18 rfl (by decide) ?_
            exact loopK 6 0 0 rfl (by decide) rfl
      · rw [if_neg (by omega)] at hr
        subst hr
        refine xiload_1 C dX6_findMarks_7 ?_
        refine xaload_0 C dX6_findMarks_8 ?_
        refine xget C 0 f_X6_81 dX6_findMarks_9 rfl rfl ?_
        refine xicmp_ge C (tgt := 163) dX6_findMarks_12 (by decide) (fun h12 => ?_) (fun h12 => ?_)
        · skip
          exact xvret C dX6_findMarks_163 (rfl)
        · skip
          exact absurd (show nI n ≤ nI j from nI_le (by omega) (by omega)) h12
  refine xaload_0 C dX6_findMarks_0 ?_
  refine xiconst C (nI 0) dX6_findMarks_1 (by decide) ?_
  refine xput C 0 (wX tc a (th) (n) (b) (ec) (lt) (zs) (zw) (zr) (zo) (zi) (i) (0) (mp) (mz) (un)) fw_X6_116 dX6_findMarks_2 rfl (Nat.le_of_ble_eq_true rfl) rfl rfl rfl ?_
  refine xiconst C (nI 0) dX6_findMarks_5 (by decide) ?_
  refine xistore_1 C dX6_findMarks_6 rfl (by decide) ?_
  exact loop n 0 (0, mp, mz) (by omega) (by decide) (Nat.le_refl _) hr
set_option maxHeartbeats 4000000 in
set_option maxRecDepth 100000 in
theorem c_X6_isWord (l : Launch) (G : va_G) (tc : Nat → ClassId) (a : Nat → Nat) (th : Int32) (n : Nat) (b : Nat → Int32) (ec : Int32) (lt : Bool) (zs : Nat → Nat) (zw : Nat → Int32) (zr zo : Nat → Bool) (zi : Nat → Int32) (i : IS) (mm : Nat) (mp mz un : Nat → Nat) (hz : ∀ w, zs w ≤ 3) (hn : n ≤ 48) (hM : mOk mm mp mz) (q w : Nat) (hq : q < mm) (hw : w < 12) : kI l yX6_isWord (xw yX6_isWord cX6_isWord 3 (some .boolean)) 1 G tc [.ref (a 0), .int (nI q), .int (nI w)] (wX tc a (th) (n) (b) (ec) (lt) (zs) (zw) (zr) (zo) (zi) (i) (mm) (mp) (mz) (un)) (bI (iwB b n ec zs zw mp mz q w)) (wX tc a (th) (n) (b) (ec) (lt) (zs) (zw) (zr) (zo) (zi) (i) (mm) (mp) (mz) (un)) := by
  refine kI_of [some (.ref (a 0)), some (.int (nI q)), some (.int (nI w))] 0 (by decide) (Nat.le_of_ble_eq_true rfl) rfl ?_
  intro p e s m args below meth c A C
  have hMq := hM.2 q hq
  have hM48 := hM.1
  have hzw := hz w
  refine xaload_0 C dX6_isWord_0 ?_
  refine xiload_2 C dX6_isWord_1 ?_
  refine xaload_0 C dX6_isWord_2 ?_
  refine xget C 0 f_X6_55 dX6_isWord_3 rfl rfl ?_
  refine xiload_1 C dX6_isWord_6 ?_
  refine xialdN C (q) 13 dX6_isWord_7 rfl (by omega) (rfl) (by decide) ?_
  refine xcallViA C m_X6_stands k_X6_96 (c_X6_stands l G tc a th n b ec lt zs zw zr zo zi i mm mp mz un hz hn w (mp q) hw hMq.1) dX6_isWord_8 0 rfl rfl rfl (by decide) rfl (Nat.le_of_ble_eq_true rfl) ⟨by decide, by decide⟩ ?_
  refine xif_eq C (tgt := 33) dX6_isWord_11 (by decide) (fun h11 => ?_) (fun h11 => ?_)
  · skip
    have h11 := bI0 h11
    refine xiconst C (0) dX6_isWord_33 (by decide) ?_
    exact xzret C dX6_isWord_34 (by first | rfl | exact bI_nar _) (by simp [bI, iwB, *]) (rfl)
  · skip
    have h11 := bI1 h11
    refine xaload_0 C dX6_isWord_14 ?_
    refine xget C 0 f_X6_21 dX6_isWord_15 rfl rfl ?_
    refine xiload_2 C dX6_isWord_18 ?_
    refine xialdN C (w) 2 dX6_isWord_19 rfl (by omega) (rfl) (by decide) ?_
    refine xaload_0 C dX6_isWord_20 ?_
    refine xget C 0 f_X6_58 dX6_isWord_21 rfl rfl ?_
    refine xiload_1 C dX6_isWord_24 ?_
    refine xialdN C (q) 14 dX6_isWord_25 rfl (by omega) (rfl) (by decide) ?_
    refine xicmp_ne C (tgt := 33) dX6_isWord_26 (by decide) (fun h26 => ?_) (fun h26 => ?_)
    · skip
      have h26 : ¬ zs w = mz q := fun h => h26 (by rw [h])
      refine xiconst C (0) dX6_isWord_33 (by decide) ?_
      exact xzret C dX6_isWord_34 (by first | rfl | exact bI_nar _) (by simp [bI, iwB, *]) (rfl)
    · skip
      have h26 : zs w = mz q := (nI_eq (by omega) (by omega)).mp h26
      refine xiconst C (1) dX6_isWord_29 (by decide) ?_
      refine xgoto C (tgt := 34) dX6_isWord_30 (by decide) ?_
      exact xzret C dX6_isWord_34 (by first | rfl | exact bI_nar _) (by simp [bI, iwB, *]) (rfl)
set_option maxHeartbeats 4000000 in
set_option maxRecDepth 100000 in
theorem c_X6_at (l : Launch) (G : va_G) (tc : Nat → ClassId) (a : Nat → Nat) (f t s9 : Nat) : kI l yX6_at (xw yX6_at cX6_at 4 (some .int)) 0 G tc [.ref (a 0), .int (nI f), .int (nI t), .int (nI s9)] ([]) (nI (atN f t s9)) ([]) := by
  refine kI_of [some (.ref (a 0)), some (.int (nI f)), some (.int (nI t)), some (.int (nI s9))] 0 (by decide) (Nat.le_of_ble_eq_true rfl) rfl ?_
  intro p e s m args below meth c A C
  refine xiload_1 C dX6_at_0 ?_
  refine xbipush C (nI 49) dX6_at_1 (by decide) ?_
  refine ximul C dX6_at_3 ?_
  refine xiload_2 C dX6_at_4 ?_
  refine xiadd C dX6_at_5 ?_
  refine xbipush C (nI 7) dX6_at_6 (by decide) ?_
  refine ximul C dX6_at_8 ?_
  refine xiload_3 C dX6_at_9 ?_
  refine xiadd C dX6_at_10 ?_
  exact xiret C dX6_at_11 (by rw [atN, pk_mul, nI_add, pk_mul, nI_add]) (rfl)
set_option maxHeartbeats 4000000 in
set_option maxRecDepth 100000 in
theorem c_X6_paired (l : Launch) (G : va_G) (tc : Nat → ClassId) (a : Nat → Nat) (th : Int32) (n : Nat) (b : Nat → Int32) (ec : Int32) (lt : Bool) (zs : Nat → Nat) (zw : Nat → Int32) (zr zo : Nat → Bool) (zi : Nat → Int32) (i : IS) (mm : Nat) (mp mz un : Nat → Nat) (f q k t s9 : Nat) (hf : f < 48) (hq : q < 48) (hk6 : k < 6) (ht : t ≤ 48) (hs9 : s9 ≤ 6) : kI l yX6_paired (xw yX6_paired cX6_paired 6 (some .int)) 1 G tc [.ref (a 0), .int (nI f), .int (nI q), .int (nI k), .int (nI t), .int (nI s9)] (wX tc a (th) (n) (b) (ec) (lt) (zs) (zw) (zr) (zo) (zi) (i) (mm) (mp) (mz) (un)) (nI (prM zr un f q k t s9)) (wX tc a (th) (n) (b) (ec) (lt) (zs) (zw) (zr) (zo) (zi) (i) (mm) (mp) (mz) (un)) := by
  refine kI_of [some (.ref (a 0)), some (.int (nI f)), some (.int (nI q)), some (.int (nI k)), some (.int (nI t)), some (.int (nI s9))] 0 (by decide) (Nat.le_of_ble_eq_true rfl) rfl ?_
  intro p e s m args below meth c A C
  refine xaload_0 C dX6_paired_0 ?_
  refine xget C 0 f_X6_27 dX6_paired_1 rfl rfl ?_
  refine xiload_3 C dX6_paired_4 ?_
  refine xzaldN C (k) 4 dX6_paired_5 rfl (by omega) (rfl) (by decide) ?_
  refine xif_eq C (tgt := 13) dX6_paired_6 (by decide) (fun h6 => ?_) (fun h6 => ?_)
  · skip
    have h6 := bI0 h6
    refine xaload_0 C dX6_paired_13 ?_
    refine xget C 0 f_X6_61 dX6_paired_14 rfl rfl ?_
    refine xaload_0 C dX6_paired_17 ?_
    refine xiload_1 C dX6_paired_18 ?_
    refine xiconst C (1) dX6_paired_19 (by decide) ?_
    refine xiadd C dX6_paired_20 ?_
    rw [nI_1 f]
    refine xiload_2 C dX6_paired_21 ?_
    refine xiload_3 C dX6_paired_22 ?_
    refine xcallVi0 C m_X6_at k_X6_125 (c_X6_at l G tc a (f + 1) (q) (k)) dX6_paired_23 0 rfl ([] : List Nat) rfl rfl rfl (by decide) rfl (Nat.le_of_ble_eq_true rfl) ⟨by decide, by decide⟩ ?_
    refine xialdN C (atN (f + 1) q k) 15 dX6_paired_26 rfl (atN_lt (by omega) (by omega) (by omega)) (rfl) (by decide) ?_
    refine xaload_0 C dX6_paired_27 ?_
    refine xget C 0 f_X6_61 dX6_paired_28 rfl rfl ?_
    refine xaload_0 C dX6_paired_31 ?_
    refine xiload_2 C dX6_paired_32 ?_
    refine xiconst C (1) dX6_paired_33 (by decide) ?_
    refine xiadd C dX6_paired_34 ?_
    rw [nI_1 q]
    refine xiload_4 C dX6_paired_35 ?_
    refine xiload_5 C dX6_paired_37 ?_
    refine xcallVi0 C m_X6_at k_X6_125 (c_X6_at l G tc a (q + 1) (t) (s9)) dX6_paired_39 0 rfl ([] : List Nat) rfl rfl rfl (by decide) rfl (Nat.le_of_ble_eq_true rfl) ⟨by decide, by decide⟩ ?_
    refine xialdN C (atN (q + 1) t s9) 15 dX6_paired_42 rfl (atN_lt (by omega) (by omega) (by omega)) (rfl) (by decide) ?_
    refine xiadd C dX6_paired_43 ?_
    exact xiret C dX6_paired_44 (by rw [prM, if_neg (by rw [h6]; exact Bool.false_ne_true), nI_add]) (rfl)
  · skip
    have h6 := bI1 h6
    refine xiconst C (nI 0) dX6_paired_9 (by decide) ?_
    refine xgoto C (tgt := 27) dX6_paired_10 (by decide) ?_
    refine xaload_0 C dX6_paired_27 ?_
    refine xget C 0 f_X6_61 dX6_paired_28 rfl rfl ?_
    refine xaload_0 C dX6_paired_31 ?_
    refine xiload_2 C dX6_paired_32 ?_
    refine xiconst C (1) dX6_paired_33 (by decide) ?_
    refine xiadd C dX6_paired_34 ?_
    rw [nI_1 q]
    refine xiload_4 C dX6_paired_35 ?_
    refine xiload_5 C dX6_paired_37 ?_
    refine xcallVi0 C m_X6_at k_X6_125 (c_X6_at l G tc a (q + 1) (t) (s9)) dX6_paired_39 0 rfl ([] : List Nat) rfl rfl rfl (by decide) rfl (Nat.le_of_ble_eq_true rfl) ⟨by decide, by decide⟩ ?_
    refine xialdN C (atN (q + 1) t s9) 15 dX6_paired_42 rfl (atN_lt (by omega) (by omega) (by omega)) (rfl) (by decide) ?_
    refine xiadd C dX6_paired_43 ?_
    exact xiret C dX6_paired_44 (by rw [prM, if_pos h6, nI_add]) (rfl)
set_option maxHeartbeats 4000000 in
set_option maxRecDepth 100000 in
theorem c_X6_canPair (l : Launch) (G : va_G) (tc : Nat → ClassId) (a : Nat → Nat) (th : Int32) (n : Nat) (b : Nat → Int32) (ec : Int32) (lt : Bool) (zs : Nat → Nat) (zw : Nat → Int32) (zr zo : Nat → Bool) (zi : Nat → Int32) (i : IS) (mm : Nat) (mp mz un : Nat → Nat) (hz : ∀ w, zs w ≤ 3) (hn : n ≤ 48) (hM : mOk mm mp mz) (f q k s9 : Nat) (hf : f < mm) (hq : q < mm) (hk6 : k < 6) (hs9 : s9 ≤ 6) : kI l yX6_canPair (xw yX6_canPair cX6_canPair 5 (some .boolean)) 2 G tc [.ref (a 0), .int (nI f), .int (nI q), .int (nI k), .int (nI s9)] (wX tc a (th) (n) (b) (ec) (lt) (zs) (zw) (zr) (zo) (zi) (i) (mm) (mp) (mz) (un)) (bI (cpB b n ec zs zw zr zo zi mp mz f q k s9)) (wX tc a (th) (n) (b) (ec) (lt) (zs) (zw) (zr) (zo) (zi) (i) (mm) (mp) (mz) (un)) := by
  refine kI_of [some (.ref (a 0)), some (.int (nI f)), some (.int (nI q)), some (.int (nI k)), some (.int (nI s9))] 0 (by decide) (Nat.le_of_ble_eq_true rfl) rfl ?_
  intro p e s m args below meth c A C
  refine xaload_0 C dX6_canPair_0 ?_
  refine xiload_3 C dX6_canPair_1 ?_
  refine xiload_4 C dX6_canPair_2 ?_
  refine xcallViA C m_X6_canStand k_X6_100 (c_X6_canStand l G tc a th n b ec lt zs zw zr zo zi i mm mp mz un hz k s9 hk6 hs9) dX6_canPair_4 0 rfl rfl rfl (by decide) rfl (Nat.le_of_ble_eq_true rfl) ⟨by decide, by decide⟩ ?_
  refine xif_eq C (tgt := 35) dX6_canPair_7 (by decide) (fun h7 => ?_) (fun h7 => ?_)
  · skip
    have h7 := bI0 h7
    refine xiconst C (0) dX6_canPair_35 (by decide) ?_
    exact xzret C dX6_canPair_36 (by first | rfl | exact bI_nar _) (by simp [bI, cpB, *]) (rfl)
  · skip
    have h7 := bI1 h7
    refine xaload_0 C dX6_canPair_10 ?_
    refine xiload_1 C dX6_canPair_11 ?_
    refine xiload_3 C dX6_canPair_12 ?_
    refine xcallViA C m_X6_isWord k_X6_129 (c_X6_isWord l G tc a th n b ec lt zs zw zr zo zi i mm mp mz un hz hn hM (f) (k) hf (by omega)) dX6_canPair_13 0 rfl rfl rfl (by decide) rfl (Nat.le_of_ble_eq_true rfl) ⟨by decide, by decide⟩ ?_
    refine xif_eq C (tgt := 35) dX6_canPair_16 (by decide) (fun h16 => ?_) (fun h16 => ?_)
    · skip
      have h16 := bI0 h16
      refine xiconst C (0) dX6_canPair_35 (by decide) ?_
      exact xzret C dX6_canPair_36 (by first | rfl | exact bI_nar _) (by simp [bI, cpB, *]) (rfl)
    · skip
      have h16 := bI1 h16
      refine xaload_0 C dX6_canPair_19 ?_
      refine xiload_2 C dX6_canPair_20 ?_
      refine xbipush C (nI 6) dX6_canPair_21 (by decide) ?_
      refine xiload_3 C dX6_canPair_23 ?_
      refine xiadd C dX6_canPair_24 ?_
      rw [nI_add 6 k]
      refine xcallViA C m_X6_isWord k_X6_129 (c_X6_isWord l G tc a th n b ec lt zs zw zr zo zi i mm mp mz un hz hn hM (q) (6 + k) hq (by omega)) dX6_canPair_25 0 rfl rfl rfl (by decide) rfl (Nat.le_of_ble_eq_true rfl) ⟨by decide, by decide⟩ ?_
      refine xif_eq C (tgt := 35) dX6_canPair_28 (by decide) (fun h28 => ?_) (fun h28 => ?_)
      · skip
        have h28 := bI0 h28
        refine xiconst C (0) dX6_canPair_35 (by decide) ?_
        exact xzret C dX6_canPair_36 (by first | rfl | exact bI_nar _) (by simp [bI, cpB, *]) (rfl)
      · skip
        have h28 := bI1 h28
        refine xiconst C (1) dX6_canPair_31 (by decide) ?_
        refine xgoto C (tgt := 36) dX6_canPair_32 (by decide) ?_
        exact xzret C dX6_canPair_36 (by first | rfl | exact bI_nar _) (by simp [bI, cpB, *]) (rfl)
