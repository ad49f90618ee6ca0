set_option maxHeartbeats 4000000 in
set_option maxRecDepth 100000 in
theorem c_X3_findAt (l : Launch) (G : va_G) (tc : Nat → ClassId) (a : Nat → Nat) (mp mb mo mc : Nat → Int32) (mm : Nat) (aT aK : Nat → Nat) (b : Nat → Int32) (n : Nat) (ec : Int32) (ko kc ki : Nat → Int32) (kr ku : Int32) (hn : n ≤ 48) (hm : mm < 48) (i : Nat) (hi : i < n) : kI l yX3_findAt (xw yX3_findAt cX3_findAt 8 (some .int)) 3 G tc [.ref (a 0), .ref (aT 0), .ref (aK 0), .int (nI i)] (wM tc a (mp) (mb) (mo) (mc) (mm) ++ (wT tc aT b n ec ++ wK tc aK ko kc ki kr ku)) (nI (mGo b n ec ko kc i)) (wMs tc a (fmS b n ec ko kc i (mp, mb, mo, mc, mm)) ++ (wT tc aT b n ec ++ wK tc aK ko kc ki kr ku)) := by
  refine kI_of [some (.ref (a 0)), some (.ref (aT 0)), some (.ref (aK 0)), some (.int (nI i)), none, none, none, none] 4 (by decide) (Nat.le_of_ble_eq_true rfl) rfl ?_
  intro p e s m args below meth c A C
  have loop : ∀ (q : Nat), q ≤ 3 → mlG b n ec ko kc i q = mLen b n ec ko kc i → xAT p l e (xR 3 0 0) s m args below meth c (xQi below args s G A (nI (mGo b n ec ko kc i)) (wMs tc a (fmS b n ec ko kc i (mp, mb, mo, mc, mm)) ++ (wT tc aT b n ec ++ wK tc aK ko kc ki kr ku))) G A 8 0 0 (wM tc a (mp) (mb) (mo) (mc) (mm) ++ (wT tc aT b n ec ++ wK tc aK ko kc ki kr ku)) [some (.ref (a 0)), some (.ref (aT 0)), some (.ref (aK 0)), some (.int (nI i)), some (.int (nI q)), none, none, none] 3 [] := by
    intro q
    induction q with
    | zero =>
      intro hq hz
      have hz : 0 = mLen b n ec ko kc i := hz
      refine xiload_4 C dX3_findAt_3 ?_
      refine xiconst C (1) dX3_findAt_5 (by decide) ?_
      refine xicmp_lt C (tgt := 115) dX3_findAt_6 (by decide) (fun h6 => ?_) (fun h6 => ?_)
      · skip
        refine xiconst C (1) dX3_findAt_115 (by decide) ?_
        exact xiret C dX3_findAt_116 (by rw [mGo, if_pos hz.symm]; rfl) (by rw [fmS, if_pos hz.symm]; rfl)
      · skip
        exact absurd (by decide) h6
    | succ q ih =>
      intro hq hz
      rw [mlG] at hz
      refine xiload_4 C dX3_findAt_3 ?_
      refine xiconst C (1) dX3_findAt_5 (by decide) ?_
      refine xicmp_lt C (tgt := 115) dX3_findAt_6 (by decide) (fun h6 => ?_) (fun h6 => ?_)
      · skip
        exact absurd h6 (by rw [show (1 : Int32) = nI 1 from rfl]; exact nI_nlt (by omega) (by omega))
      · skip
        refine xaload_1 C dX3_findAt_9 ?_
        refine xiload_3 C dX3_findAt_10 ?_
        refine xiload_4 C dX3_findAt_11 ?_
        refine xcallVi0 C m_X4_wordAt k_X3_39 (c_X4_wordAt l G tc aT b n ec hn i (q + 1) (by omega) (by omega) (by omega)) dX3_findAt_13 5 rfl [5, 6] rfl rfl rfl (by decide) rfl (Nat.le_of_ble_eq_true rfl) ⟨by decide, by decide⟩ ?_
        refine xistore_5 C dX3_findAt_16 rfl (by decide) ?_
        refine xaload_2 C dX3_findAt_18 ?_
        refine xiload_5 C dX3_findAt_19 ?_
        refine xcallVi0 C m_X2_openedBy k_X3_43 (c_X2_openedBy l G tc aK ko kc ki kr ku _) dX3_findAt_21 7 rfl [7, 8, 9, 10] rfl rfl rfl (by decide) rfl (Nat.le_of_ble_eq_true rfl) ⟨by decide, by decide⟩ ?_
        refine xistore_6 C dX3_findAt_24 rfl (by decide) ?_
        refine xaload_2 C dX3_findAt_26 ?_
        refine xiload_5 C dX3_findAt_27 ?_
        refine xcallVi0 C m_X2_closedBy k_X3_49 (c_X2_closedBy l G tc aK ko kc ki kr ku _) dX3_findAt_29 7 rfl [7, 8, 9, 10] rfl rfl rfl (by decide) rfl (Nat.le_of_ble_eq_true rfl) ⟨by decide, by decide⟩ ?_
        refine xistore_7 C dX3_findAt_32 rfl (by decide) ?_
        refine xiload_6 C dX3_findAt_34 ?_
        refine xiload_7 C dX3_findAt_36 ?_
        refine xior C dX3_findAt_38 ?_
        refine xif_eq C (tgt := 109) dX3_findAt_39 (by decide) (fun h39 => ?_) (fun h39 => ?_)
        · skip
          have hz : mlG b n ec ko kc i q = mLen b n ec ko kc i := by rw [← hz, if_neg (by simp [hasM, h39])]
          refine xiinc_4 C (nI q) dX3_findAt_109 ((i32_m1 _).trans (nI_pred q)) rfl (by decide) ?_
          refine xgoto C (tgt := 3) dX3_findAt_112 (by decide) ?_
          refine xfg_5 ?_
          refine xfg_6 ?_
          refine xfg_7 ?_
          exact ih (by omega) hz
        · skip
          have hz : q + 1 = mLen b n ec ko kc i := by rw [← hz, if_pos (by simp [hasM, h39])]
          refine xaload_0 C dX3_findAt_42 ?_
          refine xget C 0 f_X3_24 dX3_findAt_43 rfl rfl ?_
          refine xbipush C (48) dX3_findAt_46 (by decide) ?_
          refine xicmp_ge C (tgt := 109) dX3_findAt_48 (by decide) (fun h48 => ?_) (fun h48 => ?_)
          · skip
            exact absurd h48 (nI_ge hm (by decide))
          · skip
            refine xaload_0 C dX3_findAt_51 ?_
            refine xget C 0 f_X3_9 dX3_findAt_52 rfl rfl ?_
            refine xaload_0 C dX3_findAt_55 ?_
            refine xget C 0 f_X3_24 dX3_findAt_56 rfl rfl ?_
            refine xiload_3 C dX3_findAt_59 ?_
            refine xiastN C (mm) 1 (wM tc a (upd mp mm (nI i)) (mb) (mo) (mc) (mm) ++ (wT tc aT b n ec ++ wK tc aK ko kc ki kr ku)) dX3_findAt_60 rfl (hm) (rfl) (by decide) rfl ?_
            refine xaload_0 C dX3_findAt_61 ?_
            refine xget C 0 f_X3_15 dX3_findAt_62 rfl rfl ?_
            refine xaload_0 C dX3_findAt_65 ?_
            refine xget C 0 f_X3_24 dX3_findAt_66 rfl rfl ?_
            refine xiload_3 C dX3_findAt_69 ?_
            refine xiload_4 C dX3_findAt_70 ?_
            refine xiadd C dX3_findAt_72 ?_
            refine xtop (w := .int (nI (i + (q + 1)))) (congrArg Value.int (nI_add i (q + 1))) ?_
            refine xiastN C (mm) 2 (wM tc a (upd mp mm (nI i)) (upd mb mm (nI (i + (q + 1)))) (mo) (mc) (mm) ++ (wT tc aT b n ec ++ wK tc aK ko kc ki kr ku)) dX3_findAt_73 rfl (hm) (rfl) (by decide) rfl ?_
            refine xaload_0 C dX3_findAt_74 ?_
            refine xget C 0 f_X3_18 dX3_findAt_75 rfl rfl ?_
            refine xaload_0 C dX3_findAt_78 ?_
            refine xget C 0 f_X3_24 dX3_findAt_79 rfl rfl ?_
            refine xiload_6 C dX3_findAt_82 ?_
            refine xiastN C (mm) 3 (wM tc a (upd mp mm (nI i)) (upd mb mm (nI (i + (q + 1)))) (upd mo mm (kw ko kc ko (wAt b n ec i (q + 1)))) (mc) (mm) ++ (wT tc aT b n ec ++ wK tc aK ko kc ki kr ku)) dX3_findAt_84 rfl (hm) (rfl) (by decide) rfl ?_
            refine xaload_0 C dX3_findAt_85 ?_
            refine xget C 0 f_X3_21 dX3_findAt_86 rfl rfl ?_
            refine xaload_0 C dX3_findAt_89 ?_
            refine xget C 0 f_X3_24 dX3_findAt_90 rfl rfl ?_
            refine xiload_7 C dX3_findAt_93 ?_
            refine xiastN C (mm) 4 (wM tc a (upd mp mm (nI i)) (upd mb mm (nI (i + (q + 1)))) (upd mo mm (kw ko kc ko (wAt b n ec i (q + 1)))) (upd mc mm (kw ko kc kc (wAt b n ec i (q + 1)))) (mm) ++ (wT tc aT b n ec ++ wK tc aK ko kc ki kr ku)) dX3_findAt_95 rfl (hm) (rfl) (by decide) rfl ?_
            refine xaload_0 C dX3_findAt_96 ?_
            refine xdup C dX3_findAt_97 rfl ?_
            refine xget C 0 f_X3_24 dX3_findAt_98 rfl rfl ?_
            refine xiconst C (1) dX3_findAt_101 (by decide) ?_
            refine xiadd C dX3_findAt_102 ?_
            refine xtop (w := .int (nI (mm + 1))) (congrArg Value.int (nI_1 mm)) ?_
            refine xput C 0 (wM tc a (upd mp mm (nI i)) (upd mb mm (nI (i + (q + 1)))) (upd mo mm (kw ko kc ko (wAt b n ec i (q + 1)))) (upd mc mm (kw ko kc kc (wAt b n ec i (q + 1)))) (mm + 1) ++ (wT tc aT b n ec ++ wK tc aK ko kc ki kr ku)) fw_X3_24 dX3_findAt_103 rfl (Nat.le_of_ble_eq_true rfl) rfl rfl rfl ?_
            refine xiload_4 C dX3_findAt_106 ?_
            exact xiret C dX3_findAt_108 (by rw [mGo, if_neg (by omega), hz]) (by rw [fmS, if_neg (by omega), ← hz]; rfl)
  refine xiconst C (nI 3) dX3_findAt_0 (by decide) ?_
  refine xistore_4 C dX3_findAt_1 rfl (by decide) ?_
  exact loop 3 (by omega) rfl
set_option maxHeartbeats 4000000 in
set_option maxRecDepth 100000 in
theorem c_X3_find (l : Launch) (G : va_G) (tc : Nat → ClassId) (a : Nat → Nat) (mp mb mo mc : Nat → Int32) (mm : Nat) (aT aK : Nat → Nat) (b : Nat → Int32) (n : Nat) (ec : Int32) (ko kc ki : Nat → Int32) (kr ku : Int32) (hn : n ≤ 48) (r : MS) (hr : fmG b n ec ko kc n 0 0 (mp, mb, mo, mc, 0) = r) : kV l yX3_find (xw yX3_find cX3_find 5 none) 4 G tc [.ref (a 0), .ref (aT 0), .ref (aK 0)] (wM tc a (mp) (mb) (mo) (mc) (mm) ++ (wT tc aT b n ec ++ wK tc aK ko kc ki kr ku)) (wMs tc a r ++ (wT tc aT b n ec ++ wK tc aK ko kc ki kr ku)) := by
  refine kV_of [some (.ref (a 0)), some (.ref (aT 0)), some (.ref (aK 0)), none, none] 2 (by decide) (Nat.le_of_ble_eq_true rfl) rfl ?_
  intro p e s m args below meth c A C
  have loop : ∀ (f i nx : Nat) (mp mb mo mc : Nat → Int32) (mm : Nat), i + f = n → mm ≤ i → nx ≤ 60 → fmG b n ec ko kc f i nx (mp, mb, mo, mc, mm) = r → xAT p l e (xR 4 0 0) s m args below meth c (xQv below args s G A (wMs tc a r ++ (wT tc aT b n ec ++ wK tc aK ko kc ki kr ku))) G A 5 0 0 (wM tc a (mp) (mb) (mo) (mc) (mm) ++ (wT tc aT b n ec ++ wK tc aK ko kc ki kr ku)) [some (.ref (a 0)), some (.ref (aT 0)), some (.ref (aK 0)), some (.int (nI nx)), some (.int (nI i))] 10 [] := by
    intro f
    induction f with
    | zero =>
      intro i nx mp mb mo mc mm hi hm hx hz
      have hi : i = n := hi
      subst hi
      have hz : (mp, mb, mo, mc, mm) = r := hz
      refine xiload_4 C dX3_find_10 ?_
      refine xaload_1 C dX3_find_12 ?_
      refine xget C 5 f_X3_28 dX3_find_13 rfl rfl ?_
      refine xicmp_ge C (tgt := 56) dX3_find_16 (by decide) (fun h16 => ?_) (fun h16 => ?_)
      · skip
        exact xvret C dX3_find_56 (by rw [← hz]; rfl)
      · skip
        exact absurd (Int32.le_refl _) h16
    | succ f ih =>
      intro i nx mp mb mo mc mm hi hm hx hz
      have hin : i < n := by omega
      rw [fmG] at hz
      refine xiload_4 C dX3_find_10 ?_
      refine xaload_1 C dX3_find_12 ?_
      refine xget C 5 f_X3_28 dX3_find_13 rfl rfl ?_
      refine xicmp_ge C (tgt := 56) dX3_find_16 (by decide) (fun h16 => ?_) (fun h16 => ?_)
      · skip
        exact absurd h16 (nI_ge hin (by omega))
      · skip
        refine xiload_4 C dX3_find_19 ?_
        refine xiload_3 C dX3_find_21 ?_
        refine xicmp_ne C (tgt := 50) dX3_find_22 (by decide) (fun h22 => ?_) (fun h22 => ?_)
        · skip
          have h22 : ¬ i = nx := fun h => h22 (by rw [h])
          rw [if_neg h22] at hz
          refine xiinc_4 C (nI (i + 1)) dX3_find_50 (nI_1 i) rfl (by decide) ?_
          refine xgoto C (tgt := 10) dX3_find_53 (by decide) ?_
          exact ih (i + 1) nx mp mb mo mc mm (by omega) (by omega) hx hz
        · skip
          have h22 : i = nx := (nI_eq (by omega) (by omega)).mp h22
          rw [if_pos h22] at hz
          refine xiload_4 C dX3_find_25 ?_
          refine xaload_1 C dX3_find_27 ?_
          refine xiload_4 C dX3_find_28 ?_
          refine xcallVi0 C m_X4_isEscape k_X3_31 (c_X4_isEscape l G tc aT b n ec hn (nI i)) dX3_find_30 5 rfl [5, 6] rfl rfl rfl (by decide) rfl (Nat.le_of_ble_eq_true rfl) ⟨by decide, by decide⟩ ?_
          refine xif_eq C (tgt := 40) dX3_find_33 (by decide) (fun h33 => ?_) (fun h33 => ?_)
          · skip
            have h33 := bI0 h33
            rw [isEs_nI hin hn] at h33
            have h33 := of_decide_eq_false h33
            rw [if_neg h33] at hz
            refine xaload_0 C dX3_find_40 ?_
            refine xaload_1 C dX3_find_41 ?_
            refine xaload_2 C dX3_find_42 ?_
            refine xiload_4 C dX3_find_43 ?_
            refine xcallVi C m_X3_findAt k_X3_35 (c_X3_findAt l G tc a mp mb mo mc mm aT aK b n ec ko kc ki kr ku hn (by omega) i hin) dX3_find_45 0 rfl [0, 1, 2, 3, 4, 5, 6, 7, 8, 9, 10] (wMs tc a (fmS b n ec ko kc i (mp, mb, mo, mc, mm)) ++ (wT tc aT b n ec ++ wK tc aK ko kc ki kr ku)) rfl rfl rfl rfl rfl (by decide) rfl (Nat.le_of_ble_eq_true rfl) ⟨by decide, by decide⟩ ?_
            have hfm : (fmS b n ec ko kc i (mp, mb, mo, mc, mm)).2.2.2.2 ≤ i + 1 := by
              rw [fmS]
              split
              · exact Nat.le_succ_of_le hm
              · exact Nat.succ_le_succ hm
            have hml : mGo b n ec ko kc i ≤ 3 := by
              rw [mGo]
              have := mLen_le (b := b) (n := n) (ec := ec) (ko := ko) (kc := kc) (i := i)
              split <;> omega
            refine xiadd C dX3_find_48 ?_
            refine xtop (w := .int (nI (i + mGo b n ec ko kc i))) (congrArg Value.int (nI_add i (mGo b n ec ko kc i))) ?_
            refine xistore_3 C dX3_find_49 rfl (by decide) ?_
            refine xiinc_4 C (nI (i + 1)) dX3_find_50 (nI_1 i) rfl (by decide) ?_
            refine xgoto C (tgt := 10) dX3_find_53 (by decide) ?_
            exact ih (i + 1) (i + mGo b n ec ko kc i) _ _ _ _ _ (by omega) hfm (by omega) hz
          · skip
            have h33 := bI1 h33
            rw [isEs_nI hin hn] at h33
            have h33 := of_decide_eq_true h33
            rw [if_pos h33] at hz
            refine xiconst C (2) dX3_find_36 (by decide) ?_
            refine xgoto C (tgt := 48) dX3_find_37 (by decide) ?_
            refine xiadd C dX3_find_48 ?_
            refine xtop (w := .int (nI (i + 2))) (congrArg Value.int (nI_add i (2))) ?_
            refine xistore_3 C dX3_find_49 rfl (by decide) ?_
            refine xiinc_4 C (nI (i + 1)) dX3_find_50 (nI_1 i) rfl (by decide) ?_
            refine xgoto C (tgt := 10) dX3_find_53 (by decide) ?_
            exact ih (i + 1) (i + 2) mp mb mo mc mm (by omega) (by omega) (by omega) hz
  refine xaload_0 C dX3_find_0 ?_
  refine xiconst C (0) dX3_find_1 (by decide) ?_
  refine xput C 0 (wM tc a (mp) (mb) (mo) (mc) (0) ++ (wT tc aT b n ec ++ wK tc aK ko kc ki kr ku)) fw_X3_24 dX3_find_2 rfl (Nat.le_of_ble_eq_true rfl) rfl rfl rfl ?_
  refine xiconst C (nI 0) dX3_find_5 (by decide) ?_
  refine xistore_3 C dX3_find_6 rfl (by decide) ?_
  refine xiconst C (nI 0) dX3_find_7 (by decide) ?_
  refine xistore_4 C dX3_find_8 rfl (by decide) ?_
  exact loop n 0 0 mp mb mo mc 0 (by omega) (Nat.le_refl 0) (by decide) hr
