set_option maxHeartbeats 4000000 in
set_option maxRecDepth 100000 in
theorem c_X6_feed (l : Launch) (G : va_G) (tc : Nat → ClassId) (a : Nat → Nat) (th : Int32) (n : Nat) (b : Nat → Int32) (ec : Int32) (lt : Bool) (zs : Nat → Nat) (zw : Nat → Int32) (zr zo : Nat → Bool) (zi : Nat → Int32) (i : IS) (mm : Nat) (mp mz un : Nat → Nat) (hn : n ≤ 48) (x : Int64) : kI l yX6_feed (xw yX6_feed cX6_feed 6 (some .int)) 2 G tc [.ref (a 0), .long x] (wX tc a (th) (n) (b) (ec) (lt) (zs) (zw) (zr) (zo) (zi) (i) (mm) (mp) (mz) (un)) (if fTm x n = 0 then nI (fdA x 8 b n).2 else 0) (wX tc a (fTm x n) (if fTm x n = 0 then (fdA x 8 b n).2 else n) (if fTm x n = 0 then (fdA x 8 b n).1 else b) (ec) (lt) (zs) (zw) (zr) (zo) (zi) (if fTm x n = 0 then fgI i else i) (mm) (mp) (mz) (un)) := by
  refine kI_of [some (.ref (a 0)), some (.long x), none, none, none, none] 3 (by decide) (Nat.le_of_ble_eq_true rfl) rfl ?_
  intro p e s m args below meth c A C
  have loop2 : ∀ (z9 : Int32), fTm x n = 0 → ∀ (k : Nat) (b2 : Nat → Int32) (n2 : Nat), k ≤ 8 → n2 + nz x k ≤ 48 → fdA x k b2 n2 = fdA x 8 b n → xAT p l e (xR 2 0 0) s m args below meth c (xQi below args s G A (if fTm x n = 0 then nI (fdA x 8 b n).2 else 0) (wX tc a (fTm x n) (if fTm x n = 0 then (fdA x 8 b n).2 else n) (if fTm x n = 0 then (fdA x 8 b n).1 else b) (ec) (lt) (zs) (zw) (zr) (zo) (zi) (if fTm x n = 0 then fgI i else i) (mm) (mp) (mz) (un))) G A 6 0 0 (wX tc a (0) (n2) (b2) (ec) (lt) (zs) (zw) (zr) (zo) (zi) (i) (mm) (mp) (mz) (un)) [some (.ref (a 0)), some (.long x), none, some (.int z9), some (.int (nI (8 * k) - 8)), none] 86 [] := by
    intro z9 hth k
    induction k with
    | zero =>
      intro b2 n2 hk hn2 hz
      have hz : (b2, n2) = fdA x 8 b n := hz
      refine xiload_4 C dX6_feed_86 ?_
      refine xif_lt C (tgt := 137) dX6_feed_88 (by decide) (fun h88 => ?_) (fun h88 => ?_)
      · skip
        refine xaload_0 C dX6_feed_137 ?_
        refine xiconst C (0) dX6_feed_138 (by decide) ?_
        refine xput C 0 (wX tc a (0) (n2) (b2) (ec) (lt) (zs) (zw) (zr) (zo) (zi) (fgI i) (mm) (mp) (mz) (un)) fw_X6_84 dX6_feed_139 rfl (Nat.le_of_ble_eq_true rfl) rfl rfl rfl ?_
        refine xaload_0 C dX6_feed_142 ?_
        refine xget C 0 f_X6_81 dX6_feed_143 rfl rfl ?_
        exact xiret C dX6_feed_146 (by rw [if_pos hth, ← hz]) (by rw [hth, if_pos rfl, if_pos rfl, if_pos rfl, ← hz])
      · skip
        exact absurd (by decide) h88
    | succ k ih =>
      intro b2 n2 hk hn2 hz
      rw [fdA] at hz
      rw [nz] at hn2
      rw [sh8 k]
      refine xiload_4 C dX6_feed_86 ?_
      refine xif_lt C (tgt := 137) dX6_feed_88 (by decide) (fun h88 => ?_) (fun h88 => ?_)
      · skip
        exact absurd h88 (nI_pos (by omega))
      · skip
        refine xlload_1 C dX6_feed_91 ?_
        refine xiload_4 C dX6_feed_92 ?_
        refine xlshr C dX6_feed_94 ?_
        refine xldc2 C dX6_feed_95 cl_X6_71 ?_
        refine xland C dX6_feed_98 ?_
        refine xl2i C dX6_feed_99 ?_
        refine xtop (w := .int (fb x k)) (congrArg Value.int (fb_eq x (by omega))) ?_
        refine xistore_5 C dX6_feed_100 rfl (by decide) ?_
        refine xiload_5 C dX6_feed_102 ?_
        refine xif_ne C (tgt := 110) dX6_feed_104 (by decide) (fun h104 => ?_) (fun h104 => ?_)
        · skip
          rw [if_neg h104] at hz hn2
          refine xaload_0 C dX6_feed_110 ?_
          refine xget C 0 f_X6_9 dX6_feed_111 rfl rfl ?_
          refine xaload_0 C dX6_feed_114 ?_
          refine xget C 0 f_X6_81 dX6_feed_115 rfl rfl ?_
          refine xiload_5 C dX6_feed_118 ?_
          refine xiastN C (n2) 1 (wX tc a (0) (n2) (upd b2 n2 (fb x k)) (ec) (lt) (zs) (zw) (zr) (zo) (zi) (i) (mm) (mp) (mz) (un)) dX6_feed_120 rfl (by omega) (rfl) (by decide) rfl ?_
          refine xaload_0 C dX6_feed_121 ?_
          refine xdup C dX6_feed_122 rfl ?_
          refine xget C 0 f_X6_81 dX6_feed_123 rfl rfl ?_
          refine xiconst C (1) dX6_feed_126 (by decide) ?_
          refine xiadd C dX6_feed_127 ?_
          refine xtop (w := .int (nI (n2 + 1))) (congrArg Value.int (nI_1 n2)) ?_
          refine xput C 0 (wX tc a (0) (n2 + 1) (upd b2 n2 (fb x k)) (ec) (lt) (zs) (zw) (zr) (zo) (zi) (i) (mm) (mp) (mz) (un)) fw_X6_81 dX6_feed_128 rfl (Nat.le_of_ble_eq_true rfl) rfl rfl rfl ?_
          refine xiinc_4 C (nI (8 * k) - 8) dX6_feed_131 (by rw [Int32.sub_eq_add_neg]; rfl) rfl (by decide) ?_
          refine xgoto C (tgt := 86) dX6_feed_134 (by decide) ?_
          refine xfg_5 ?_
          exact ih _ _ (by omega) (by omega) hz
        · skip
          rw [if_pos h104] at hz hn2
          refine xgoto C (tgt := 131) dX6_feed_107 (by decide) ?_
          refine xiinc_4 C (nI (8 * k) - 8) dX6_feed_131 (by rw [Int32.sub_eq_add_neg]; rfl) rfl (by decide) ?_
          refine xgoto C (tgt := 86) dX6_feed_134 (by decide) ?_
          refine xfg_5 ?_
          exact ih _ _ (by omega) (by omega) hz
  have loop1 : ∀ (k z : Nat), k ≤ 8 → z + k ≤ 8 → fdC x k z = fdC x 8 0 → xAT p l e (xR 2 0 0) s m args below meth c (xQi below args s G A (if fTm x n = 0 then nI (fdA x 8 b n).2 else 0) (wX tc a (fTm x n) (if fTm x n = 0 then (fdA x 8 b n).2 else n) (if fTm x n = 0 then (fdA x 8 b n).1 else b) (ec) (lt) (zs) (zw) (zr) (zo) (zi) (if fTm x n = 0 then fgI i else i) (mm) (mp) (mz) (un))) G A 6 0 0 (wX tc a (0) (n) (b) (ec) (lt) (zs) (zw) (zr) (zo) (zi) (i) (mm) (mp) (mz) (un)) [some (.ref (a 0)), some (.long x), none, some (.int (nI z)), some (.int (nI (8 * k) - 8)), none] 11 [] := by
    intro k
    induction k with
    | zero =>
      intro z hk hzk hz
      have hz : some z = fdC x 8 0 := hz
      have hzn := fdC_nz hz.symm
      refine xiload_4 C dX6_feed_11 ?_
      refine xif_lt C (tgt := 65) dX6_feed_13 (by decide) (fun h13 => ?_) (fun h13 => ?_)
      · skip
        refine xaload_0 C dX6_feed_65 ?_
        refine xget C 0 f_X6_81 dX6_feed_66 rfl rfl ?_
        refine xiload_3 C dX6_feed_69 ?_
        refine xiadd C dX6_feed_70 ?_
        rw [nI_add n z]
        refine xbipush C (nI 48) dX6_feed_71 (by decide) ?_
        refine xicmp_le C (tgt := 82) dX6_feed_73 (by decide) (fun h73 => ?_) (fun h73 => ?_)
        · skip
          have h73 : n + z ≤ 48 := (nI_leI (by omega) (by decide)).mp h73
          have hth : fTm x n = 0 := by rw [fTm, ← hz]; exact if_pos h73
          refine xbipush C (nI (8 * 8) - 8) dX6_feed_82 (by decide) ?_
          refine xistore_4 C dX6_feed_84 rfl (by decide) ?_
          exact loop2 (nI z) hth 8 b n (Nat.le_refl _) (by omega) rfl
        · skip
          have h73 : ¬ n + z ≤ 48 := fun h => h73 ((nI_leI (by omega) (by decide)).mpr h)
          have hth : fTm x n = 2 := by rw [fTm, ← hz]; exact if_neg h73
          refine xaload_0 C dX6_feed_76 ?_
          refine xiconst C (2) dX6_feed_77 (by decide) ?_
          refine xcallViA C m_X6_no k_X6_77 (c_X6_no l G tc a (0) (n) (b) (ec) (lt) (zs) (zw) (zr) (zo) (zi) (i) (mm) (mp) (mz) (un) 2) dX6_feed_78 0 rfl rfl rfl (by decide) rfl (Nat.le_of_ble_eq_true rfl) ⟨by decide, by decide⟩ ?_
          exact xiret C dX6_feed_81 (by rw [hth]; rfl) (by rw [hth]; rfl)
      · skip
        exact absurd (by decide) h13
    | succ k ih =>
      intro z hk hzk hz
      rw [fdC] at hz
      rw [sh8 k]
      refine xiload_4 C dX6_feed_11 ?_
      refine xif_lt C (tgt := 65) dX6_feed_13 (by decide) (fun h13 => ?_) (fun h13 => ?_)
      · skip
        exact absurd h13 (nI_pos (by omega))
      · skip
        refine xlload_1 C dX6_feed_16 ?_
        refine xiload_4 C dX6_feed_17 ?_
        refine xlshr C dX6_feed_19 ?_
        refine xldc2 C dX6_feed_20 cl_X6_71 ?_
        refine xland C dX6_feed_23 ?_
        refine xl2i C dX6_feed_24 ?_
        refine xtop (w := .int (fb x k)) (congrArg Value.int (fb_eq x (by omega))) ?_
        refine xistore_5 C dX6_feed_25 rfl (by decide) ?_
        refine xiload_5 C dX6_feed_27 ?_
        refine xif_eq C (tgt := 46) dX6_feed_29 (by decide) (fun h29 => ?_) (fun h29 => ?_)
        · skip
          refine xiload_3 C dX6_feed_46 ?_
          refine xiload_5 C dX6_feed_47 ?_
          refine xif_ne C (tgt := 56) dX6_feed_49 (by decide) (fun h49 => ?_) (fun h49 => ?_)
          · skip
            exact absurd h29 h49
          · skip
            refine xiconst C (0) dX6_feed_52 (by decide) ?_
            refine xgoto C (tgt := 57) dX6_feed_53 (by decide) ?_
            refine xiadd C dX6_feed_57 ?_
            refine xtop (w := .int (nI z)) (congrArg Value.int (i32_a0 _)) ?_
            refine xistore_3 C dX6_feed_58 rfl (by decide) ?_
            refine xiinc_4 C (nI (8 * k) - 8) dX6_feed_59 (by rw [Int32.sub_eq_add_neg]; rfl) rfl (by decide) ?_
            refine xgoto C (tgt := 11) dX6_feed_62 (by decide) ?_
            refine xfg_5 ?_
            exact ih z (by omega) (by omega) (by rw [← hz, if_neg (by simp [h29]), if_pos h29])
        · skip
          refine xiload_5 C dX6_feed_32 ?_
          refine xcallSi0 C m_X6_isByte k_X6_73 (c_X6_isByte l G tc (fb x k)) dX6_feed_34 ([] : List Nat) rfl rfl rfl (by decide) rfl (Nat.le_of_ble_eq_true rfl) ⟨by decide, by decide⟩ ?_
          refine xif_ne C (tgt := 46) dX6_feed_37 (by decide) (fun h37 => ?_) (fun h37 => ?_)
          · skip
            have h37 := bI1 h37
            refine xiload_3 C dX6_feed_46 ?_
            refine xiload_5 C dX6_feed_47 ?_
            refine xif_ne C (tgt := 56) dX6_feed_49 (by decide) (fun h49 => ?_) (fun h49 => ?_)
            · skip
              refine xiconst C (1) dX6_feed_56 (by decide) ?_
              refine xiadd C dX6_feed_57 ?_
              refine xtop (w := .int (nI (z + 1))) (congrArg Value.int (nI_1 z)) ?_
              refine xistore_3 C dX6_feed_58 rfl (by decide) ?_
              refine xiinc_4 C (nI (8 * k) - 8) dX6_feed_59 (by rw [Int32.sub_eq_add_neg]; rfl) rfl (by decide) ?_
              refine xgoto C (tgt := 11) dX6_feed_62 (by decide) ?_
              refine xfg_5 ?_
              exact ih (z + 1) (by omega) (by omega) (by rw [← hz, if_neg (by simp [h37]), if_neg h29])
            · skip
              exact absurd h49 h29
          · skip
            have h37 := bI0 h37
            have hth : fTm x n = 1 := by rw [fTm, ← hz, if_pos (by simp [h29, h37])]
            refine xaload_0 C dX6_feed_40 ?_
            refine xiconst C (1) dX6_feed_41 (by decide) ?_
            refine xcallViA C m_X6_no k_X6_77 (c_X6_no l G tc a (0) (n) (b) (ec) (lt) (zs) (zw) (zr) (zo) (zi) (i) (mm) (mp) (mz) (un) 1) dX6_feed_42 0 rfl rfl rfl (by decide) rfl (Nat.le_of_ble_eq_true rfl) ⟨by decide, by decide⟩ ?_
            exact xiret C dX6_feed_45 (by rw [hth]; rfl) (by rw [hth]; rfl)
  refine xaload_0 C dX6_feed_0 ?_
  refine xiconst C (0) dX6_feed_1 (by decide) ?_
  refine xput C 0 (wX tc a (0) (n) (b) (ec) (lt) (zs) (zw) (zr) (zo) (zi) (i) (mm) (mp) (mz) (un)) fw_X6_64 dX6_feed_2 rfl (Nat.le_of_ble_eq_true rfl) rfl rfl rfl ?_
  refine xiconst C (nI 0) dX6_feed_5 (by decide) ?_
  refine xistore_3 C dX6_feed_6 rfl (by decide) ?_
  refine xbipush C (nI (8 * 8) - 8) dX6_feed_7 (by decide) ?_
  refine xistore_4 C dX6_feed_9 rfl (by decide) ?_
  exact loop1 8 0 (Nat.le_refl _) (by decide) rfl
set_option maxHeartbeats 4000000 in
set_option maxRecDepth 100000 in
theorem c_X6_stands (l : Launch) (G : va_G) (tc : Nat → ClassId) (a : Nat → Nat) (th : Int32) (n : Nat) (b : Nat → Int32) (ec : Int32) (lt : Bool) (zs : Nat → Nat) (zw : Nat → Int32) (zr zo : Nat → Bool) (zi : Nat → Int32) (i : IS) (mm : Nat) (mp mz un : Nat → Nat) (hz : ∀ w, zs w ≤ 3) (hn : n ≤ 48) (w j : Nat) (hw : w < 12) (hj : j ≤ 48) : kI l yX6_stands (xw yX6_stands cX6_stands 5 (some .boolean)) 0 G tc [.ref (a 0), .int (nI w), .int (nI j)] (wX tc a (th) (n) (b) (ec) (lt) (zs) (zw) (zr) (zo) (zi) (i) (mm) (mp) (mz) (un)) (bI (stB b n ec zs zw w j)) (wX tc a (th) (n) (b) (ec) (lt) (zs) (zw) (zr) (zo) (zi) (i) (mm) (mp) (mz) (un)) := by
  refine kI_of [some (.ref (a 0)), some (.int (nI w)), some (.int (nI j)), none, none] 2 (by decide) (Nat.le_of_ble_eq_true rfl) rfl ?_
  intro p e s m args below meth c A C
  have hzw := hz w
  refine xaload_0 C dX6_stands_0 ?_
  refine xget C 0 f_X6_21 dX6_stands_1 rfl rfl ?_
  refine xiload_1 C dX6_stands_4 ?_
  refine xialdN C (w) 2 dX6_stands_5 rfl (by omega) (rfl) (by decide) ?_
  refine xif_eq C (tgt := 24) dX6_stands_6 (by decide) (fun h6 => ?_) (fun h6 => ?_)
  · skip
    have h6 := nI_eq0 h6 (by omega)
    refine xiconst C (0) dX6_stands_24 (by decide) ?_
    exact xzret C dX6_stands_25 (rfl) (by rw [stB, if_pos (by simp [h6])]; rfl) (rfl)
  · skip
    have h6 := nI_neq0 h6
    refine xiload_2 C dX6_stands_9 ?_
    refine xaload_0 C dX6_stands_10 ?_
    refine xget C 0 f_X6_21 dX6_stands_11 rfl rfl ?_
    refine xiload_1 C dX6_stands_14 ?_
    refine xialdN C (w) 2 dX6_stands_15 rfl (by omega) (rfl) (by decide) ?_
    refine xiadd C dX6_stands_16 ?_
    rw [nI_add j (zs w)]
    refine xaload_0 C dX6_stands_17 ?_
    refine xget C 0 f_X6_81 dX6_stands_18 rfl rfl ?_
    refine xicmp_le C (tgt := 26) dX6_stands_21 (by decide) (fun h21 => ?_) (fun h21 => ?_)
    · skip
      have h21 : j + zs w ≤ n := (nI_leI (by omega) (by omega)).mp h21
      have hst : ¬ (decide (zs w = 0) || !decide (j + zs w ≤ n)) = true := by simp [h6, h21]
      have loop : ∀ (f k : Nat) (v : Bool), k + f = zs w → stG b ec zw w j f k v = stG b ec zw w j (zs w) 0 true → xAT p l e (xR 0 0 0) s m args below meth c (xQi below args s G A (bI (stB b n ec zs zw w j)) (wX tc a (th) (n) (b) (ec) (lt) (zs) (zw) (zr) (zo) (zi) (i) (mm) (mp) (mz) (un))) G A 5 0 0 (wX tc a (th) (n) (b) (ec) (lt) (zs) (zw) (zr) (zo) (zi) (i) (mm) (mp) (mz) (un)) [some (.ref (a 0)), some (.int (nI w)), some (.int (nI j)), some (.int (bI v)), some (.int (nI k))] 31 [] := by
        intro f
        induction f with
        | zero =>
          intro k v hk hv
          have hk : k = zs w := hk
          have hv : v = stG b ec zw w j (zs w) 0 true := hv
          refine xiload_4 C dX6_stands_31 ?_
          refine xaload_0 C dX6_stands_33 ?_
          refine xget C 0 f_X6_21 dX6_stands_34 rfl rfl ?_
          refine xiload_1 C dX6_stands_37 ?_
          refine xialdN C (w) 2 dX6_stands_38 rfl (by omega) (rfl) (by decide) ?_
          refine xicmp_ge C (tgt := 97) dX6_stands_39 (by decide) (fun h39 => ?_) (fun h39 => ?_)
          · skip
            refine xiload_3 C dX6_stands_97 ?_
            exact xzret C dX6_stands_98 (by first | rfl | exact bI_nar _) (by rw [stB, if_neg hst, hv]) (rfl)
          · skip
            exact absurd (show nI (zs w) ≤ nI k from by rw [hk]; exact Int32.le_refl _) h39
        | succ f ih =>
          intro k v hk hv
          rw [stG] at hv
          have hkl : k < zs w := by omega
          refine xiload_4 C dX6_stands_31 ?_
          refine xaload_0 C dX6_stands_33 ?_
          refine xget C 0 f_X6_21 dX6_stands_34 rfl rfl ?_
          refine xiload_1 C dX6_stands_37 ?_
          refine xialdN C (w) 2 dX6_stands_38 rfl (by omega) (rfl) (by decide) ?_
          refine xicmp_ge C (tgt := 97) dX6_stands_39 (by decide) (fun h39 => ?_) (fun h39 => ?_)
          · skip
            exact absurd h39 (nI_ge hkl (by omega))
          · skip
            refine xiload_3 C dX6_stands_42 ?_
            refine xif_eq C (tgt := 89) dX6_stands_43 (by decide) (fun h43 => ?_) (fun h43 => ?_)
            · skip
              have h43 := bI0 h43
              refine xiconst C (0) dX6_stands_89 (by decide) ?_
              refine xtop (w := .int (bI (v && (decide (b (j + k) = zw (3 * w + k)) && !decide (b (j + k) = ec))))) (congrArg Value.int (by simp [bI, h43])) ?_
              refine xistore_3 C dX6_stands_90 rfl (by decide) ?_
              refine xiinc_4 C (nI (k + 1)) dX6_stands_91 (nI_1 k) rfl (by decide) ?_
              refine xgoto C (tgt := 31) dX6_stands_94 (by decide) ?_
              exact ih (k + 1) _ (by omega) hv
            · skip
              have h43 := bI1 h43
              refine xaload_0 C dX6_stands_46 ?_
              refine xget C 0 f_X6_9 dX6_stands_47 rfl rfl ?_
              refine xiload_2 C dX6_stands_50 ?_
              refine xiload_4 C dX6_stands_51 ?_
              refine xiadd C dX6_stands_53 ?_
              refine xialdN C (j + k) 1 dX6_stands_54 rfl (by omega) (nI_add j k) (by decide) ?_
              refine xaload_0 C dX6_stands_55 ?_
              refine xget C 0 f_X6_24 dX6_stands_56 rfl rfl ?_
              refine xiconst C (nI 3) dX6_stands_59 (by decide) ?_
              refine xiload_1 C dX6_stands_60 ?_
              refine ximul C dX6_stands_61 ?_
              refine xiload_4 C dX6_stands_62 ?_
              refine xiadd C dX6_stands_64 ?_
              refine xialdN C (3 * w + k) 3 dX6_stands_65 rfl (by omega) (by rw [pk_mul, nI_add]) (by decide) ?_
              refine xicmp_ne C (tgt := 89) dX6_stands_66 (by decide) (fun h66 => ?_) (fun h66 => ?_)
              · skip
                refine xiconst C (0) dX6_stands_89 (by decide) ?_
                refine xtop (w := .int (bI (v && (decide (b (j + k) = zw (3 * w + k)) && !decide (b (j + k) = ec))))) (congrArg Value.int (by simp [bI, h66])) ?_
                refine xistore_3 C dX6_stands_90 rfl (by decide) ?_
                refine xiinc_4 C (nI (k + 1)) dX6_stands_91 (nI_1 k) rfl (by decide) ?_
                refine xgoto C (tgt := 31) dX6_stands_94 (by decide) ?_
                exact ih (k + 1) _ (by omega) hv
              · skip
                refine xaload_0 C dX6_stands_69 ?_
                refine xget C 0 f_X6_9 dX6_stands_70 rfl rfl ?_
                refine xiload_2 C dX6_stands_73 ?_
                refine xiload_4 C dX6_stands_74 ?_
                refine xiadd C dX6_stands_76 ?_
                refine xialdN C (j + k) 1 dX6_stands_77 rfl (by omega) (nI_add j k) (by decide) ?_
                refine xaload_0 C dX6_stands_78 ?_
                refine xget C 0 f_X6_13 dX6_stands_79 rfl rfl ?_
                refine xicmp_eq C (tgt := 89) dX6_stands_82 (by decide) (fun h82 => ?_) (fun h82 => ?_)
                · skip
                  refine xiconst C (0) dX6_stands_89 (by decide) ?_
                  refine xtop (w := .int (bI (v && (decide (b (j + k) = zw (3 * w + k)) && !decide (b (j + k) = ec))))) (congrArg Value.int (by simp [bI, h82])) ?_
                  refine xistore_3 C dX6_stands_90 rfl (by decide) ?_
                  refine xiinc_4 C (nI (k + 1)) dX6_stands_91 (nI_1 k) rfl (by decide) ?_
                  refine xgoto C (tgt := 31) dX6_stands_94 (by decide) ?_
                  exact ih (k + 1) _ (by omega) hv
                · skip
                  refine xiconst C (1) dX6_stands_85 (by decide) ?_
                  refine xgoto C (tgt := 90) dX6_stands_86 (by decide) ?_
                  refine xtop (w := .int (bI (v && (decide (b (j + k) = zw (3 * w + k)) && !decide (b (j + k) = ec))))) (congrArg Value.int (by rw [h43, decide_eq_true h66, decide_eq_false h82]; rfl)) ?_
                  refine xistore_3 C dX6_stands_90 rfl (by decide) ?_
                  refine xiinc_4 C (nI (k + 1)) dX6_stands_91 (nI_1 k) rfl (by decide) ?_
                  refine xgoto C (tgt := 31) dX6_stands_94 (by decide) ?_
                  exact ih (k + 1) _ (by omega) hv
      refine xiconst C (bI true) dX6_stands_26 (by decide) ?_
      refine xistore_3 C dX6_stands_27 rfl (by decide) ?_
      refine xiconst C (nI 0) dX6_stands_28 (by decide) ?_
      refine xistore_4 C dX6_stands_29 rfl (by decide) ?_
      exact loop (zs w) 0 true (by omega) rfl
    · skip
      have h21 : ¬ j + zs w ≤ n := fun h => h21 ((nI_leI (by omega) (by omega)).mpr h)
      refine xiconst C (0) dX6_stands_24 (by decide) ?_
      exact xzret C dX6_stands_25 (rfl) (by rw [stB, if_pos (by simp [h21])]; rfl) (rfl)
set_option maxHeartbeats 4000000 in
set_option maxRecDepth 100000 in
theorem c_X6_canStand (l : Launch) (G : va_G) (tc : Nat → ClassId) (a : Nat → Nat) (th : Int32) (n : Nat) (b : Nat → Int32) (ec : Int32) (lt : Bool) (zs : Nat → Nat) (zw : Nat → Int32) (zr zo : Nat → Bool) (zi : Nat → Int32) (i : IS) (mm : Nat) (mp mz un : Nat → Nat) (hz : ∀ w, zs w ≤ 3) (k h : Nat) (hk6 : k < 6) (hh : h ≤ 6) : kI l yX6_canStand (xw yX6_canStand cX6_canStand 3 (some .boolean)) 1 G tc [.ref (a 0), .int (nI k), .int (nI h)] (wX tc a (th) (n) (b) (ec) (lt) (zs) (zw) (zr) (zo) (zi) (i) (mm) (mp) (mz) (un)) (bI (csB zs zr zo zi k h)) (wX tc a (th) (n) (b) (ec) (lt) (zs) (zw) (zr) (zo) (zi) (i) (mm) (mp) (mz) (un)) := by
  refine kI_of [some (.ref (a 0)), some (.int (nI k)), some (.int (nI h))] 0 (by decide) (Nat.le_of_ble_eq_true rfl) rfl ?_
  intro p e s m args below meth c A C
  refine xaload_0 C dX6_canStand_0 ?_
  refine xiload_1 C dX6_canStand_1 ?_
  refine xcallViA C m_X6_isComplete k_X6_87 (c_X6_isComplete l G tc a th n b ec lt zs zw zr zo zi i mm mp mz un hz k hk6) dX6_canStand_2 0 rfl rfl rfl (by decide) rfl (Nat.le_of_ble_eq_true rfl) ⟨by decide, by decide⟩ ?_
  refine xif_ne C (tgt := 10) dX6_canStand_5 (by decide) (fun h5 => ?_) (fun h5 => ?_)
  · skip
    have h5 := bI1 h5
    refine xiload_2 C dX6_canStand_10 ?_
    refine xbipush C (nI 6) dX6_canStand_11 (by decide) ?_
    refine xicmp_ne C (tgt := 25) dX6_canStand_13 (by decide) (fun h13 => ?_) (fun h13 => ?_)
    · skip
      have h13 : ¬ h = 6 := fun q => h13 (by rw [q])
      have hh6 : h < 6 := by omega
      refine xaload_0 C dX6_canStand_25 ?_
      refine xget C 0 f_X6_27 dX6_canStand_26 rfl rfl ?_
      refine xiload_2 C dX6_canStand_29 ?_
      refine xzaldN C (h) 4 dX6_canStand_30 rfl (hh6) (rfl) (by decide) ?_
      refine xif_ne C (tgt := 52) dX6_canStand_31 (by decide) (fun h31 => ?_) (fun h31 => ?_)
      · skip
        have h31 := bI1 h31
        refine xiconst C (0) dX6_canStand_52 (by decide) ?_
        exact xzret C dX6_canStand_53 (by first | rfl | exact bI_nar _) (by simp [bI, csB, h5, h13, h31]) (rfl)
      · skip
        have h31 := bI0 h31
        refine xaload_0 C dX6_canStand_34 ?_
        refine xget C 0 f_X6_34 dX6_canStand_35 rfl rfl ?_
        refine xiload_2 C dX6_canStand_38 ?_
        refine xialdN C (h) 6 dX6_canStand_39 rfl (hh6) (rfl) (by decide) ?_
        refine xiload_1 C dX6_canStand_40 ?_
        refine xishr C dX6_canStand_41 ?_
        refine xiconst C (1) dX6_canStand_42 (by decide) ?_
        refine xiand C dX6_canStand_43 ?_
        refine xiconst C (1) dX6_canStand_44 (by decide) ?_
        refine xicmp_ne C (tgt := 52) dX6_canStand_45 (by decide) (fun h45 => ?_) (fun h45 => ?_)
        · skip
          refine xiconst C (0) dX6_canStand_52 (by decide) ?_
          exact xzret C dX6_canStand_53 (by first | rfl | exact bI_nar _) (by simp [bI, csB, hk, h5, h13, h31, h45]) (rfl)
        · skip
          refine xiconst C (1) dX6_canStand_48 (by decide) ?_
          refine xgoto C (tgt := 53) dX6_canStand_49 (by decide) ?_
          exact xzret C dX6_canStand_53 (by first | rfl | exact bI_nar _) (by simp [bI, csB, hk, h5, h13, h31, h45]) (rfl)
    · skip
      have h13 : h = 6 := (nI_eq (by omega) (by decide)).mp h13
      refine xaload_0 C dX6_canStand_16 ?_
      refine xget C 0 f_X6_31 dX6_canStand_17 rfl rfl ?_
      refine xiload_1 C dX6_canStand_20 ?_
      refine xzaldN C (k) 5 dX6_canStand_21 rfl (hk6) (rfl) (by decide) ?_
      refine xgoto C (tgt := 53) dX6_canStand_22 (by decide) ?_
      exact xzret C dX6_canStand_53 (by first | rfl | exact bI_nar _) (by simp [csB, h5, h13]) (rfl)
  · skip
    have h5 := bI0 h5
    refine xiconst C (0) dX6_canStand_8 (by decide) ?_
    exact xzret C dX6_canStand_9 (by first | rfl | exact bI_nar _) (by simp [bI, csB, h5]) (rfl)
set_option maxHeartbeats 4000000 in
set_option maxRecDepth 100000 in
theorem c_X6_begin (l : Launch) (G : va_G) (tc : Nat → ClassId) (a : Nat → Nat) (th : Int32) (n : Nat) (b : Nat → Int32) (ec : Int32) (lt : Bool) (zs : Nat → Nat) (zw : Nat → Int32) (zr zo : Nat → Bool) (zi : Nat → Int32) (i : IS) (mm : Nat) (mp mz un : Nat → Nat) (hm : iM i < 48) (hq : iQ i < 8) (x y : Int32) : kV l yX6_begin (xw yX6_begin cX6_begin 3 none) 0 G tc [.ref (a 0), .int x, .int y] (wX tc a (th) (n) (b) (ec) (lt) (zs) (zw) (zr) (zo) (zi) (i) (mm) (mp) (mz) (un)) (wX tc a (th) (n) (b) (ec) (lt) (zs) (zw) (zr) (zo) (zi) (bgJ x y i) (mm) (mp) (mz) (un)) := by
  refine kV_of [some (.ref (a 0)), some (.int x), some (.int y)] 0 (by decide) (Nat.le_of_ble_eq_true rfl) rfl ?_
  intro p e s m args below meth c A C
  refine xaload_0 C dX6_begin_0 ?_
  refine xget C 0 f_X6_37 dX6_begin_1 rfl rfl ?_
  refine xaload_0 C dX6_begin_4 ?_
  refine xget C 0 f_X6_90 dX6_begin_5 rfl rfl ?_
  refine xiload_1 C dX6_begin_8 ?_
  refine xiastN C (iM i) 7 (wX tc a (th) (n) (b) (ec) (lt) (zs) (zw) (zr) (zo) (zi) ((upd (iK i) (iM i) x, iA i, iE i, iT i, iP i, iD i, iO i, iM i, iQ i, iL i, iR i)) (mm) (mp) (mz) (un)) dX6_begin_9 rfl (hm) (rfl) (by decide) rfl ?_
  refine xaload_0 C dX6_begin_10 ?_
  refine xget C 0 f_X6_40 dX6_begin_11 rfl rfl ?_
  refine xaload_0 C dX6_begin_14 ?_
  refine xget C 0 f_X6_90 dX6_begin_15 rfl rfl ?_
  refine xiload_2 C dX6_begin_18 ?_
  refine xiastN C (iM i) 8 (wX tc a (th) (n) (b) (ec) (lt) (zs) (zw) (zr) (zo) (zi) ((upd (iK i) (iM i) x, upd (iA i) (iM i) y, iE i, iT i, iP i, iD i, iO i, iM i, iQ i, iL i, iR i)) (mm) (mp) (mz) (un)) dX6_begin_19 rfl (hm) (rfl) (by decide) rfl ?_
  refine xaload_0 C dX6_begin_20 ?_
  refine xget C 0 f_X6_46 dX6_begin_21 rfl rfl ?_
  refine xaload_0 C dX6_begin_24 ?_
  refine xget C 0 f_X6_90 dX6_begin_25 rfl rfl ?_
  refine xiconst C (2) dX6_begin_28 (by decide) ?_
  refine xiastN C (iM i) 10 (wX tc a (th) (n) (b) (ec) (lt) (zs) (zw) (zr) (zo) (zi) ((upd (iK i) (iM i) x, upd (iA i) (iM i) y, iE i, upd (iT i) (iM i) 2, iP i, iD i, iO i, iM i, iQ i, iL i, iR i)) (mm) (mp) (mz) (un)) dX6_begin_29 rfl (hm) (rfl) (by decide) rfl ?_
  refine xaload_0 C dX6_begin_30 ?_
  refine xget C 0 f_X6_43 dX6_begin_31 rfl rfl ?_
  refine xaload_0 C dX6_begin_34 ?_
  refine xget C 0 f_X6_90 dX6_begin_35 rfl rfl ?_
  refine xiconst C (-1) dX6_begin_38 (by decide) ?_
  refine xiastN C (iM i) 9 (wX tc a (th) (n) (b) (ec) (lt) (zs) (zw) (zr) (zo) (zi) ((upd (iK i) (iM i) x, upd (iA i) (iM i) y, upd (iE i) (iM i) (-1), upd (iT i) (iM i) 2, iP i, iD i, iO i, iM i, iQ i, iL i, iR i)) (mm) (mp) (mz) (un)) dX6_begin_39 rfl (hm) (rfl) (by decide) rfl ?_
  refine xaload_0 C dX6_begin_40 ?_
  refine xget C 0 f_X6_49 dX6_begin_41 rfl rfl ?_
  refine xaload_0 C dX6_begin_44 ?_
  refine xget C 0 f_X6_90 dX6_begin_45 rfl rfl ?_
  refine xaload_0 C dX6_begin_48 ?_
  refine xget C 0 f_X6_93 dX6_begin_49 rfl rfl ?_
  refine xif_ne C (tgt := 59) dX6_begin_52 (by decide) (fun h52 => ?_) (fun h52 => ?_)
  · skip
    have h52 : ¬ iQ i = 0 := nI_neq0 h52
    have hq1 : nI (iQ i) - 1 = nI (iQ i - 1) := pk_sub (a := iQ i) (b := 1) (by omega)
    refine xaload_0 C dX6_begin_59 ?_
    refine xget C 0 f_X6_52 dX6_begin_60 rfl rfl ?_
    refine xaload_0 C dX6_begin_63 ?_
    refine xget C 0 f_X6_93 dX6_begin_64 rfl rfl ?_
    refine xiconst C (1) dX6_begin_67 (by decide) ?_
    refine xisub C dX6_begin_68 ?_
    refine xialdN C (iQ i - 1) 12 dX6_begin_69 rfl (by omega) (hq1) (by decide) ?_
    refine xtop (w := .int (opI (iO i) (iQ i) 0)) (congrArg Value.int (by rw [opI, if_pos (by omega)]; rfl)) ?_
    refine xiastN C (iM i) 11 (wX tc a (th) (n) (b) (ec) (lt) (zs) (zw) (zr) (zo) (zi) ((upd (iK i) (iM i) x, upd (iA i) (iM i) y, upd (iE i) (iM i) (-1), upd (iT i) (iM i) 2, upd (iP i) (iM i) (opI (iO i) (iQ i) 0), iD i, iO i, iM i, iQ i, iL i, iR i)) (mm) (mp) (mz) (un)) dX6_begin_70 rfl (hm) (rfl) (by decide) rfl ?_
    refine xaload_0 C dX6_begin_71 ?_
    refine xget C 0 f_X6_52 dX6_begin_72 rfl rfl ?_
    refine xaload_0 C dX6_begin_75 ?_
    refine xget C 0 f_X6_93 dX6_begin_76 rfl rfl ?_
    refine xaload_0 C dX6_begin_79 ?_
    refine xget C 0 f_X6_90 dX6_begin_80 rfl rfl ?_
    refine xiastN C (iQ i) 12 (wX tc a (th) (n) (b) (ec) (lt) (zs) (zw) (zr) (zo) (zi) ((upd (iK i) (iM i) x, upd (iA i) (iM i) y, upd (iE i) (iM i) (-1), upd (iT i) (iM i) 2, upd (iP i) (iM i) (opI (iO i) (iQ i) 0), iD i, upd (iO i) (iQ i) (nI (iM i)), iM i, iQ i, iL i, iR i)) (mm) (mp) (mz) (un)) dX6_begin_83 rfl (hq) (rfl) (by decide) rfl ?_
    refine xaload_0 C dX6_begin_84 ?_
    refine xdup C dX6_begin_85 rfl ?_
    refine xget C 0 f_X6_93 dX6_begin_86 rfl rfl ?_
    refine xiconst C (1) dX6_begin_89 (by decide) ?_
    refine xiadd C dX6_begin_90 ?_
    refine xtop (w := .int (nI (iQ i + 1))) (congrArg Value.int (nI_1 _)) ?_
    refine xput C 0 (wX tc a (th) (n) (b) (ec) (lt) (zs) (zw) (zr) (zo) (zi) ((upd (iK i) (iM i) x, upd (iA i) (iM i) y, upd (iE i) (iM i) (-1), upd (iT i) (iM i) 2, upd (iP i) (iM i) (opI (iO i) (iQ i) 0), iD i, upd (iO i) (iQ i) (nI (iM i)), iM i, iQ i + 1, iL i, iR i)) (mm) (mp) (mz) (un)) fw_X6_93 dX6_begin_91 rfl (Nat.le_of_ble_eq_true rfl) rfl rfl rfl ?_
    refine xaload_0 C dX6_begin_94 ?_
    refine xdup C dX6_begin_95 rfl ?_
    refine xget C 0 f_X6_90 dX6_begin_96 rfl rfl ?_
    refine xiconst C (1) dX6_begin_99 (by decide) ?_
    refine xiadd C dX6_begin_100 ?_
    refine xtop (w := .int (nI (iM i + 1))) (congrArg Value.int (nI_1 _)) ?_
    refine xput C 0 (wX tc a (th) (n) (b) (ec) (lt) (zs) (zw) (zr) (zo) (zi) ((upd (iK i) (iM i) x, upd (iA i) (iM i) y, upd (iE i) (iM i) (-1), upd (iT i) (iM i) 2, upd (iP i) (iM i) (opI (iO i) (iQ i) 0), iD i, upd (iO i) (iQ i) (nI (iM i)), iM i + 1, iQ i + 1, iL i, iR i)) (mm) (mp) (mz) (un)) fw_X6_90 dX6_begin_101 rfl (Nat.le_of_ble_eq_true rfl) rfl rfl rfl ?_
    exact xvret C dX6_begin_104 (rfl)
  · skip
    have h52 : iQ i = 0 := nI_eq0 h52 (by omega)
    refine xiconst C (-1) dX6_begin_55 (by decide) ?_
    refine xgoto C (tgt := 70) dX6_begin_56 (by decide) ?_
    refine xtop (w := .int (opI (iO i) (iQ i) 0)) (congrArg Value.int (by rw [opI, if_neg (by omega)])) ?_
    refine xiastN C (iM i) 11 (wX tc a (th) (n) (b) (ec) (lt) (zs) (zw) (zr) (zo) (zi) ((upd (iK i) (iM i) x, upd (iA i) (iM i) y, upd (iE i) (iM i) (-1), upd (iT i) (iM i) 2, upd (iP i) (iM i) (opI (iO i) (iQ i) 0), iD i, iO i, iM i, iQ i, iL i, iR i)) (mm) (mp) (mz) (un)) dX6_begin_70 rfl (hm) (rfl) (by decide) rfl ?_
    refine xaload_0 C dX6_begin_71 ?_
    refine xget C 0 f_X6_52 dX6_begin_72 rfl rfl ?_
    refine xaload_0 C dX6_begin_75 ?_
    refine xget C 0 f_X6_93 dX6_begin_76 rfl rfl ?_
    refine xaload_0 C dX6_begin_79 ?_
    refine xget C 0 f_X6_90 dX6_begin_80 rfl rfl ?_
    refine xiastN C (iQ i) 12 (wX tc a (th) (n) (b) (ec) (lt) (zs) (zw) (zr) (zo) (zi) ((upd (iK i) (iM i) x, upd (iA i) (iM i) y, upd (iE i) (iM i) (-1), upd (iT i) (iM i) 2, upd (iP i) (iM i) (opI (iO i) (iQ i) 0), iD i, upd (iO i) (iQ i) (nI (iM i)), iM i, iQ i, iL i, iR i)) (mm) (mp) (mz) (un)) dX6_begin_83 rfl (hq) (rfl) (by decide) rfl ?_
    refine xaload_0 C dX6_begin_84 ?_
    refine xdup C dX6_begin_85 rfl ?_
    refine xget C 0 f_X6_93 dX6_begin_86 rfl rfl ?_
    refine xiconst C (1) dX6_begin_89 (by decide) ?_
    refine xiadd C dX6_begin_90 ?_
    refine xtop (w := .int (nI (iQ i + 1))) (congrArg Value.int (nI_1 _)) ?_
    refine xput C 0 (wX tc a (th) (n) (b) (ec) (lt) (zs) (zw) (zr) (zo) (zi) ((upd (iK i) (iM i) x, upd (iA i) (iM i) y, upd (iE i) (iM i) (-1), upd (iT i) (iM i) 2, upd (iP i) (iM i) (opI (iO i) (iQ i) 0), iD i, upd (iO i) (iQ i) (nI (iM i)), iM i, iQ i + 1, iL i, iR i)) (mm) (mp) (mz) (un)) fw_X6_93 dX6_begin_91 rfl (Nat.le_of_ble_eq_true rfl) rfl rfl rfl ?_
    refine xaload_0 C dX6_begin_94 ?_
    refine xdup C dX6_begin_95 rfl ?_
    refine xget C 0 f_X6_90 dX6_begin_96 rfl rfl ?_
    refine xiconst C (1) dX6_begin_99 (by decide) ?_
    refine xiadd C dX6_begin_100 ?_
    refine xtop (w := .int (nI (iM i + 1))) (congrArg Value.int (nI_1 _)) ?_
    refine xput C 0 (wX tc a (th) (n) (b) (ec) (lt) (zs) (zw) (zr) (zo) (zi) ((upd (iK i) (iM i) x, upd (iA i) (iM i) y, upd (iE i) (iM i) (-1), upd (iT i) (iM i) 2, upd (iP i) (iM i) (opI (iO i) (iQ i) 0), iD i, upd (iO i) (iQ i) (nI (iM i)), iM i + 1, iQ i + 1, iL i, iR i)) (mm) (mp) (mz) (un)) fw_X6_90 dX6_begin_101 rfl (Nat.le_of_ble_eq_true rfl) rfl rfl rfl ?_
    exact xvret C dX6_begin_104 (rfl)
set_option maxHeartbeats 4000000 in
set_option maxRecDepth 100000 in
theorem c_X6_finish (l : Launch) (G : va_G) (tc : Nat → ClassId) (a : Nat → Nat) (th : Int32) (n : Nat) (b : Nat → Int32) (ec : Int32) (lt : Bool) (zs : Nat → Nat) (zw : Nat → Int32) (zr zo : Nat → Bool) (zi : Nat → Int32) (i : IS) (mm : Nat) (mp mz un : Nat → Nat) (hi : iOk i) (hq : 0 < iQ i) (hq8 : iQ i ≤ 8) (x y : Int32) : kV l yX6_finish (xw yX6_finish cX6_finish 3 none) 0 G tc [.ref (a 0), .int x, .int y] (wX tc a (th) (n) (b) (ec) (lt) (zs) (zw) (zr) (zo) (zi) (i) (mm) (mp) (mz) (un)) (wX tc a (th) (n) (b) (ec) (lt) (zs) (zw) (zr) (zo) (zi) (fnI y x i) (mm) (mp) (mz) (un)) := by
  refine kV_of [some (.ref (a 0)), some (.int x), some (.int y)] 0 (by decide) (Nat.le_of_ble_eq_true rfl) rfl ?_
  intro p e s m args below meth c A C
  obtain ⟨j, hj0, hio⟩ := hi.2.2 (iQ i - 1) (by omega)
  have hj : j < 48 := by have := hi.1; omega
  refine xaload_0 C dX6_finish_0 ?_
  refine xdup C dX6_finish_1 rfl ?_
  refine xget C 0 f_X6_93 dX6_finish_2 rfl rfl ?_
  refine xiconst C (1) dX6_finish_5 (by decide) ?_
  refine xisub C dX6_finish_6 ?_
  refine xtop (w := .int (nI (iQ i - 1))) (congrArg Value.int (pk_sub (a := iQ i) (b := 1) hq)) ?_
  refine xput C 0 (wX tc a (th) (n) (b) (ec) (lt) (zs) (zw) (zr) (zo) (zi) ((iK i, iA i, iE i, iT i, iP i, iD i, iO i, iM i, iQ i - 1, iL i, iR i)) (mm) (mp) (mz) (un)) fw_X6_93 dX6_finish_7 rfl (Nat.le_of_ble_eq_true rfl) rfl rfl rfl ?_
  refine xaload_0 C dX6_finish_10 ?_
  refine xget C 0 f_X6_46 dX6_finish_11 rfl rfl ?_
  refine xaload_0 C dX6_finish_14 ?_
  refine xget C 0 f_X6_52 dX6_finish_15 rfl rfl ?_
  refine xaload_0 C dX6_finish_18 ?_
  refine xget C 0 f_X6_93 dX6_finish_19 rfl rfl ?_
  refine xialdN C (iQ i - 1) 12 dX6_finish_22 rfl (by omega) (rfl) (by decide) ?_
  refine xiload_1 C dX6_finish_23 ?_
  refine xiastN C (j) 10 (wX tc a (th) (n) (b) (ec) (lt) (zs) (zw) (zr) (zo) (zi) ((iK i, iA i, iE i, upd (iT i) j x, iP i, iD i, iO i, iM i, iQ i - 1, iL i, iR i)) (mm) (mp) (mz) (un)) dX6_finish_24 rfl (hj) (hio) (by decide) rfl ?_
  refine xaload_0 C dX6_finish_25 ?_
  refine xget C 0 f_X6_43 dX6_finish_26 rfl rfl ?_
  refine xaload_0 C dX6_finish_29 ?_
  refine xget C 0 f_X6_52 dX6_finish_30 rfl rfl ?_
  refine xaload_0 C dX6_finish_33 ?_
  refine xget C 0 f_X6_93 dX6_finish_34 rfl rfl ?_
  refine xialdN C (iQ i - 1) 12 dX6_finish_37 rfl (by omega) (rfl) (by decide) ?_
  refine xiload_2 C dX6_finish_38 ?_
  refine xiastN C (j) 9 (wX tc a (th) (n) (b) (ec) (lt) (zs) (zw) (zr) (zo) (zi) ((iK i, iA i, upd (iE i) j y, upd (iT i) j x, iP i, iD i, iO i, iM i, iQ i - 1, iL i, iR i)) (mm) (mp) (mz) (un)) dX6_finish_39 rfl (hj) (hio) (by decide) rfl ?_
  exact xvret C dX6_finish_40 (by rw [fnI, show (iO i (iQ i - 1)).toNatClampNeg = j by rw [hio]; exact nI_clamp (by omega)])
