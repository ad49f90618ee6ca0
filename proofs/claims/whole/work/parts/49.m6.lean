set_option maxHeartbeats 4000000 in
set_option maxRecDepth 100000 in
theorem c_X6_count (l : Launch) (G : va_G) (tc : Nat → ClassId) (a : Nat → Nat) (th : Int32) (n : Nat) (b : Nat → Int32) (ec : Int32) (lt : Bool) (zs : Nat → Nat) (zw : Nat → Int32) (zr zo : Nat → Bool) (zi : Nat → Int32) (i : IS) (mm : Nat) (mp mz un : Nat → Nat) (hz : ∀ w, zs w ≤ 3) (hn : n ≤ 48) (hM : mOk mm mp mz) : kV l yX6_count (xw yX6_count cX6_count 7 none) 3 G tc [.ref (a 0)] (wX tc a (th) (n) (b) (ec) (lt) (zs) (zw) (zr) (zo) (zi) (i) (mm) (mp) (mz) (un)) (wX tc a (th) (n) (b) (ec) (lt) (zs) (zw) (zr) (zo) (zi) (i) (mm) (mp) (mz) (cnF b n ec zs zw zr zo zi mp mz mm (mm + 1) un)) := by
  refine kV_of [some (.ref (a 0)), none, none, none, none, none, none] 6 (by decide) (Nat.le_of_ble_eq_true rfl) rfl ?_
  intro p e s m args below meth c A C
  have hM48 := hM.1
  have loopF : ∀ (f : Nat) (u : Nat → Nat), f ≤ mm + 1 → cnF b n ec zs zw zr zo zi mp mz mm f u = cnF b n ec zs zw zr zo zi mp mz mm (mm + 1) un → xAT p l e (xR 3 0 0) s m args below meth c (xQv below args s G A (wX tc a (th) (n) (b) (ec) (lt) (zs) (zw) (zr) (zo) (zi) (i) (mm) (mp) (mz) (cnF b n ec zs zw zr zo zi mp mz mm (mm + 1) un))) G A 7 0 0 (wX tc a (th) (n) (b) (ec) (lt) (zs) (zw) (zr) (zo) (zi) (i) (mm) (mp) (mz) (u)) [some (.ref (a 0)), some (.int (nI f - 1)), none, none, none, none, none] 5 [] := by
    intro f
    induction f with
    | zero =>
      intro u hf hu
      have hu : u = cnF b n ec zs zw zr zo zi mp mz mm (mm + 1) un := hu
      refine xiload_1 C dX6_count_5 ?_
      refine xif_lt C (tgt := 170) dX6_count_6 (by decide) (fun h6 => ?_) (fun h6 => ?_)
      · skip
        exact xvret C dX6_count_170 (by rw [hu])
      · skip
        exact absurd (by decide) h6
    | succ f ihF =>
      intro u hf hu
      rw [cnF] at hu
      rw [nI_pred]
      have hfm : f ≤ mm := by omega
      have loopT : ∀ (g t : Nat) (u : Nat → Nat), t + g = mm + 1 → f < t → cnF b n ec zs zw zr zo zi mp mz mm f (cnT b n ec zs zw zr zo zi mp mz f g t u) = cnF b n ec zs zw zr zo zi mp mz mm (mm + 1) un → xAT p l e (xR 3 0 0) s m args below meth c (xQv below args s G A (wX tc a (th) (n) (b) (ec) (lt) (zs) (zw) (zr) (zo) (zi) (i) (mm) (mp) (mz) (cnF b n ec zs zw zr zo zi mp mz mm (mm + 1) un))) G A 7 0 0 (wX tc a (th) (n) (b) (ec) (lt) (zs) (zw) (zr) (zo) (zi) (i) (mm) (mp) (mz) (u)) [some (.ref (a 0)), some (.int (nI f)), some (.int (nI t)), none, none, none, none] 40 [] := by
        intro g
        induction g with
        | zero =>
          intro t u ht hft hu
          have hu : cnF b n ec zs zw zr zo zi mp mz mm f u = cnF b n ec zs zw zr zo zi mp mz mm (mm + 1) un := hu
          refine xiload_2 C dX6_count_40 ?_
          refine xaload_0 C dX6_count_41 ?_
          refine xget C 0 f_X6_116 dX6_count_42 rfl rfl ?_
          refine xicmp_gt C (tgt := 164) dX6_count_45 (by decide) (fun h45 => ?_) (fun h45 => ?_)
          · skip
            refine xiinc_1 C (nI f - 1) dX6_count_164 (i32_m1 _) rfl (by decide) ?_
            refine xgoto C (tgt := 5) dX6_count_167 (by decide) ?_
            refine xfg_2 ?_
            exact ihF u (by omega) hu
          · skip
            exact absurd (show nI mm < nI t from nI_lt (by omega) (by omega)) h45
        | succ g ihT =>
          intro t u ht hft hu
          rw [cnT] at hu
          have htm : t ≤ mm := by omega
          have loopS : ∀ (h s9 : Nat) (u : Nat → Nat), s9 + h = 7 → cnF b n ec zs zw zr zo zi mp mz mm f (cnT b n ec zs zw zr zo zi mp mz f g (t + 1) (cnS b n ec zs zw zr zo zi mp mz f t h s9 u)) = cnF b n ec zs zw zr zo zi mp mz mm (mm + 1) un → xAT p l e (xR 3 0 0) s m args below meth c (xQv below args s G A (wX tc a (th) (n) (b) (ec) (lt) (zs) (zw) (zr) (zo) (zi) (i) (mm) (mp) (mz) (cnF b n ec zs zw zr zo zi mp mz mm (mm + 1) un))) G A 7 0 0 (wX tc a (th) (n) (b) (ec) (lt) (zs) (zw) (zr) (zo) (zi) (i) (mm) (mp) (mz) (u)) [some (.ref (a 0)), some (.int (nI f)), some (.int (nI t)), some (.int (nI s9)), none, none, none] 50 [] := by
            intro h
            induction h with
            | zero =>
              intro s9 u hs hu
              have hs : s9 = 7 := hs
              subst hs
              have hu : cnF b n ec zs zw zr zo zi mp mz mm f (cnT b n ec zs zw zr zo zi mp mz f g (t + 1) u) = cnF b n ec zs zw zr zo zi mp mz mm (mm + 1) un := hu
              refine xiload_3 C dX6_count_50 ?_
              refine xbipush C (6) dX6_count_51 (by decide) ?_
              refine xicmp_gt C (tgt := 158) dX6_count_53 (by decide) (fun h53 => ?_) (fun h53 => ?_)
              · skip
                refine xiinc_2 C (nI (t + 1)) dX6_count_158 (nI_1 t) rfl (by decide) ?_
                refine xgoto C (tgt := 40) dX6_count_161 (by decide) ?_
                refine xfg_3 ?_
                exact ihT (t + 1) u (by omega) (by omega) hu
              · skip
                exact absurd (by decide) h53
            | succ h ihS =>
              intro s9 u hs hu
              rw [cnS] at hu
              have hs6 : s9 ≤ 6 := by omega
              have loopK : ∀ (h2 k Lx : Nat), k + h2 = 6 → cnK b n ec zs zw zr zo zi mp mz u f t s9 h2 k Lx = cnV b n ec zs zw zr zo zi mp mz u f t s9 → xAT p l e (xR 3 0 0) s m args below meth c (xQv below args s G A (wX tc a (th) (n) (b) (ec) (lt) (zs) (zw) (zr) (zo) (zi) (i) (mm) (mp) (mz) (cnF b n ec zs zw zr zo zi mp mz mm (mm + 1) un))) G A 7 0 0 (wX tc a (th) (n) (b) (ec) (lt) (zs) (zw) (zr) (zo) (zi) (i) (mm) (mp) (mz) (u)) [some (.ref (a 0)), some (.int (nI f)), some (.int (nI t)), some (.int (nI s9)), some (.int (nI Lx)), some (.int (nI k)), none] 77 [] := by
                intro h2
                induction h2 with
                | zero =>
                  intro k Lx hk hL
                  have hk : k = 6 := hk
                  subst hk
                  have hL : Lx = cnV b n ec zs zw zr zo zi mp mz u f t s9 := hL
                  refine xiload_5 C dX6_count_77 ?_
                  refine xbipush C (6) dX6_count_79 (by decide) ?_
                  refine xicmp_ge C (tgt := 138) dX6_count_81 (by decide) (fun h81 => ?_) (fun h81 => ?_)
                  · skip
                    refine xaload_0 C dX6_count_138 ?_
                    refine xget C 0 f_X6_61 dX6_count_139 rfl rfl ?_
                    refine xaload_0 C dX6_count_142 ?_
                    refine xiload_1 C dX6_count_143 ?_
                    refine xiload_2 C dX6_count_144 ?_
                    refine xiload_3 C dX6_count_145 ?_
                    refine xcallVi0 C m_X6_at k_X6_125 (c_X6_at l G tc a (f) (t) (s9)) dX6_count_146 0 rfl ([] : List Nat) rfl rfl rfl (by decide) rfl (Nat.le_of_ble_eq_true rfl) ⟨by decide, by decide⟩ ?_
                    refine xiload_4 C dX6_count_149 ?_
                    refine xiastN C (atN f t s9) 15 (wX tc a (th) (n) (b) (ec) (lt) (zs) (zw) (zr) (zo) (zi) (i) (mm) (mp) (mz) (updN u (atN f t s9) Lx)) dX6_count_151 rfl (atN_lt (by omega) (by omega) hs6) (rfl) (by decide) (by rw [updN_eq]; rfl) ?_
                    refine xiinc_3 C (nI (s9 + 1)) dX6_count_152 (nI_1 s9) rfl (by decide) ?_
                    refine xgoto C (tgt := 50) dX6_count_155 (by decide) ?_
                    refine xfg_4 ?_
                    refine xfg_5 ?_
                    exact ihS (s9 + 1) _ (by omega) (by rw [hL]; exact hu)
                  · skip
                    exact absurd (Int32.le_refl _) h81
                | succ h2 ihK =>
                  intro k Lx hk hL
                  rw [cnK] at hL
                  have hk6 : k < 6 := by omega
                  have loopP : ∀ (h3 q Lx : Nat), q + h3 = t → f < q → cnK b n ec zs zw zr zo zi mp mz u f t s9 h2 (k + 1) (cnP b n ec zs zw zr zo zi mp mz u f t s9 k h3 q Lx) = cnV b n ec zs zw zr zo zi mp mz u f t s9 → xAT p l e (xR 3 0 0) s m args below meth c (xQv below args s G A (wX tc a (th) (n) (b) (ec) (lt) (zs) (zw) (zr) (zo) (zi) (i) (mm) (mp) (mz) (cnF b n ec zs zw zr zo zi mp mz mm (mm + 1) un))) G A 7 0 0 (wX tc a (th) (n) (b) (ec) (lt) (zs) (zw) (zr) (zo) (zi) (i) (mm) (mp) (mz) (u)) [some (.ref (a 0)), some (.int (nI f)), some (.int (nI t)), some (.int (nI s9)), some (.int (nI Lx)), some (.int (nI k)), some (.int (nI q))] 89 [] := by
                    intro h3
                    induction h3 with
                    | zero =>
                      intro q Lx hq hfq hL
                      have hq : q = t := hq
                      subst hq
                      have hL : cnK b n ec zs zw zr zo zi mp mz u f q s9 h2 (k + 1) Lx = cnV b n ec zs zw zr zo zi mp mz u f q s9 := hL
                      refine xiload_6 C dX6_count_89 ?_
                      refine xiload_2 C dX6_count_91 ?_
                      refine xicmp_ge C (tgt := 132) dX6_count_92 (by decide) (fun h92 => ?_) (fun h92 => ?_)
                      · skip
                        refine xiinc_5 C (nI (k + 1)) dX6_count_132 (nI_1 k) rfl (by decide) ?_
                        refine xgoto C (tgt := 77) dX6_count_135 (by decide) ?_
                        refine xfg_6 ?_
                        exact ihK (k + 1) Lx (by omega) hL
                      · skip
                        exact absurd (Int32.le_refl _) h92
                    | succ h3 ihP =>
                      intro q Lx hq hfq hL
                      rw [cnP] at hL
                      have hqt : q < t := by omega
                      refine xiload_6 C dX6_count_89 ?_
                      refine xiload_2 C dX6_count_91 ?_
                      refine xicmp_ge C (tgt := 132) dX6_count_92 (by decide) (fun h92 => ?_) (fun h92 => ?_)
                      · skip
                        exact absurd h92 (nI_ge hqt (by omega))
                      · skip
                        refine xaload_0 C dX6_count_95 ?_
                        refine xiload_1 C dX6_count_96 ?_
                        refine xiload_6 C dX6_count_97 ?_
                        refine xiload_5 C dX6_count_99 ?_
                        refine xiload_3 C dX6_count_101 ?_
                        refine xcallViA C m_X6_canPair k_X6_132 (c_X6_canPair l G tc a (th) (n) (b) (ec) (lt) (zs) (zw) (zr) (zo) (zi) (i) (mm) (mp) (mz) (u) hz hn hM f q k s9 (by omega) (by omega) hk6 hs6) dX6_count_102 0 rfl rfl rfl (by decide) rfl (Nat.le_of_ble_eq_true rfl) ⟨by decide, by decide⟩ ?_
                        refine xif_eq C (tgt := 126) dX6_count_105 (by decide) (fun h105 => ?_) (fun h105 => ?_)
                        · skip
                          have h105 := bI0 h105
                          refine xiinc_6 C (nI (q + 1)) dX6_count_126 (nI_1 q) rfl (by decide) ?_
                          refine xgoto C (tgt := 89) dX6_count_129 (by decide) ?_
                          exact ihP (q + 1) _ (by omega) (by omega) (by rw [← hL, if_neg (by rw [h105]; exact Bool.false_ne_true)])
                        · skip
                          have h105 := bI1 h105
                          refine xiload_4 C dX6_count_108 ?_
                          refine xaload_0 C dX6_count_110 ?_
                          refine xiload_1 C dX6_count_111 ?_
                          refine xiload_6 C dX6_count_112 ?_
                          refine xiload_5 C dX6_count_114 ?_
                          refine xiload_2 C dX6_count_116 ?_
                          refine xiload_3 C dX6_count_117 ?_
                          refine xcallViA C m_X6_paired k_X6_136 (c_X6_paired l G tc a (th) (n) (b) (ec) (lt) (zs) (zw) (zr) (zo) (zi) (i) (mm) (mp) (mz) (u) f q k t s9 (by omega) (by omega) hk6 (by omega) hs6) dX6_count_118 0 rfl rfl rfl (by decide) rfl (Nat.le_of_ble_eq_true rfl) ⟨by decide, by decide⟩ ?_
                          refine xmmin C dX6_count_121 k_X6_140 (Nat.le_of_ble_eq_true rfl) ⟨by decide, by decide⟩ ?_
                          refine xtop (w := .int (nI (mnI Lx (prM zr u f q k t s9)))) (congrArg Value.int nI_mnI) ?_
                          refine xistore_4 C dX6_count_124 rfl (by decide) ?_
                          refine xiinc_6 C (nI (q + 1)) dX6_count_126 (nI_1 q) rfl (by decide) ?_
                          refine xgoto C (tgt := 89) dX6_count_129 (by decide) ?_
                          exact ihP (q + 1) _ (by omega) (by omega) (by rw [← hL, if_pos h105])
                  refine xiload_5 C dX6_count_77 ?_
                  refine xbipush C (6) dX6_count_79 (by decide) ?_
                  refine xicmp_ge C (tgt := 138) dX6_count_81 (by decide) (fun h81 => ?_) (fun h81 => ?_)
                  · skip
                    exact absurd h81 (nI_ge hk6 (by decide))
                  · skip
                    refine xiload_1 C dX6_count_84 ?_
                    refine xiconst C (1) dX6_count_85 (by decide) ?_
                    refine xiadd C dX6_count_86 ?_
                    rw [nI_1 f]
                    refine xistore_6 C dX6_count_87 rfl (by decide) ?_
                    exact loopP (t - (f + 1)) (f + 1) Lx (by omega) (by omega) hL
              refine xiload_3 C dX6_count_50 ?_
              refine xbipush C (6) dX6_count_51 (by decide) ?_
              refine xicmp_gt C (tgt := 158) dX6_count_53 (by decide) (fun h53 => ?_) (fun h53 => ?_)
              · skip
                exact absurd (show nI 6 < nI s9 from h53) (nI_nlt (by omega) (by omega))
              · skip
                refine xiconst C (nI 1) dX6_count_56 (by decide) ?_
                refine xaload_0 C dX6_count_57 ?_
                refine xget C 0 f_X6_61 dX6_count_58 rfl rfl ?_
                refine xaload_0 C dX6_count_61 ?_
                refine xiload_1 C dX6_count_62 ?_
                refine xiconst C (1) dX6_count_63 (by decide) ?_
                refine xiadd C dX6_count_64 ?_
                rw [nI_1 f]
                refine xiload_2 C dX6_count_65 ?_
                refine xiload_3 C dX6_count_66 ?_
                refine xcallVi0 C m_X6_at k_X6_125 (c_X6_at l G tc a (f + 1) (t) (s9)) dX6_count_67 0 rfl ([] : List Nat) rfl rfl rfl (by decide) rfl (Nat.le_of_ble_eq_true rfl) ⟨by decide, by decide⟩ ?_
                refine xialdN C (atN (f + 1) t s9) 15 dX6_count_70 rfl (atN_lt (by omega) (by omega) hs6) (rfl) (by decide) ?_
                refine xiadd C dX6_count_71 ?_
                refine xtop (w := .int (nI (1 + u (atN (f + 1) t s9)))) (congrArg Value.int (nI_add 1 _)) ?_
                refine xistore_4 C dX6_count_72 rfl (by decide) ?_
                refine xiconst C (nI 0) dX6_count_74 (by decide) ?_
                refine xistore_5 C dX6_count_75 rfl (by decide) ?_
                exact loopK 6 0 _ rfl rfl
          refine xiload_2 C dX6_count_40 ?_
          refine xaload_0 C dX6_count_41 ?_
          refine xget C 0 f_X6_116 dX6_count_42 rfl rfl ?_
          refine xicmp_gt C (tgt := 164) dX6_count_45 (by decide) (fun h45 => ?_) (fun h45 => ?_)
          · skip
            exact absurd h45 (nI_nlt (by omega) (by omega))
          · skip
            refine xiconst C (nI 0) dX6_count_48 (by decide) ?_
            refine xistore_3 C dX6_count_49 rfl (by decide) ?_
            exact loopS 7 0 u rfl hu
      have loop0 : ∀ (g s9 : Nat) (u : Nat → Nat), s9 + g = 7 → cnF b n ec zs zw zr zo zi mp mz mm f (cnT b n ec zs zw zr zo zi mp mz f (mm - f) (f + 1) (cn0 f g s9 u)) = cnF b n ec zs zw zr zo zi mp mz mm (mm + 1) un → xAT p l e (xR 3 0 0) s m args below meth c (xQv below args s G A (wX tc a (th) (n) (b) (ec) (lt) (zs) (zw) (zr) (zo) (zi) (i) (mm) (mp) (mz) (cnF b n ec zs zw zr zo zi mp mz mm (mm + 1) un))) G A 7 0 0 (wX tc a (th) (n) (b) (ec) (lt) (zs) (zw) (zr) (zo) (zi) (i) (mm) (mp) (mz) (u)) [some (.ref (a 0)), some (.int (nI f)), some (.int (nI s9)), none, none, none, none] 11 [] := by
        intro g
        induction g with
        | zero =>
          intro s9 u hs hu
          have hs : s9 = 7 := hs
          subst hs
          have hu : cnF b n ec zs zw zr zo zi mp mz mm f (cnT b n ec zs zw zr zo zi mp mz f (mm - f) (f + 1) u) = cnF b n ec zs zw zr zo zi mp mz mm (mm + 1) un := hu
          refine xiload_2 C dX6_count_11 ?_
          refine xbipush C (6) dX6_count_12 (by decide) ?_
          refine xicmp_gt C (tgt := 36) dX6_count_14 (by decide) (fun h14 => ?_) (fun h14 => ?_)
          · skip
            refine xiload_1 C dX6_count_36 ?_
            refine xiconst C (1) dX6_count_37 (by decide) ?_
            refine xiadd C dX6_count_38 ?_
            rw [nI_1 f]
            refine xistore_2 C dX6_count_39 rfl (by decide) ?_
            exact loopT (mm - f) (f + 1) u (by omega) (by omega) hu
          · skip
            exact absurd (by decide) h14
        | succ g ih0 =>
          intro s9 u hs hu
          rw [cn0] at hu
          have hs6 : s9 ≤ 6 := by omega
          refine xiload_2 C dX6_count_11 ?_
          refine xbipush C (6) dX6_count_12 (by decide) ?_
          refine xicmp_gt C (tgt := 36) dX6_count_14 (by decide) (fun h14 => ?_) (fun h14 => ?_)
          · skip
            exact absurd (show nI 6 < nI s9 from h14) (nI_nlt (by omega) (by omega))
          · skip
            refine xaload_0 C dX6_count_17 ?_
            refine xget C 0 f_X6_61 dX6_count_18 rfl rfl ?_
            refine xaload_0 C dX6_count_21 ?_
            refine xiload_1 C dX6_count_22 ?_
            refine xiload_1 C dX6_count_23 ?_
            refine xiload_2 C dX6_count_24 ?_
            refine xcallVi0 C m_X6_at k_X6_125 (c_X6_at l G tc a (f) (f) (s9)) dX6_count_25 0 rfl ([] : List Nat) rfl rfl rfl (by decide) rfl (Nat.le_of_ble_eq_true rfl) ⟨by decide, by decide⟩ ?_
            refine xiconst C (nI 0) dX6_count_28 (by decide) ?_
            refine xiastN C (atN f f s9) 15 (wX tc a (th) (n) (b) (ec) (lt) (zs) (zw) (zr) (zo) (zi) (i) (mm) (mp) (mz) (updN u (atN f f s9) 0)) dX6_count_29 rfl (atN_lt (by omega) (by omega) hs6) (rfl) (by decide) (by rw [updN_eq]; rfl) ?_
            refine xiinc_2 C (nI (s9 + 1)) dX6_count_30 (nI_1 s9) rfl (by decide) ?_
            refine xgoto C (tgt := 11) dX6_count_33 (by decide) ?_
            exact ih0 (s9 + 1) _ (by omega) hu
      refine xiload_1 C dX6_count_5 ?_
      refine xif_lt C (tgt := 170) dX6_count_6 (by decide) (fun h6 => ?_) (fun h6 => ?_)
      · skip
        exact absurd h6 (nI_pos (by omega))
      · skip
        refine xiconst C (nI 0) dX6_count_9 (by decide) ?_
        refine xistore_2 C dX6_count_10 rfl (by decide) ?_
        exact loop0 7 0 u rfl hu
  refine xaload_0 C dX6_count_0 ?_
  refine xget C 0 f_X6_116 dX6_count_1 rfl rfl ?_
  refine xistore_1 C dX6_count_4 rfl (by decide) ?_
  rw [← nI_pred (mm)]
  exact loopF (mm + 1) un (Nat.le_refl _) rfl
