set_option maxHeartbeats 4000000 in
set_option maxRecDepth 100000 in
theorem c_X0_fewest (l : Launch) (G : va_G) (tc : Nat → ClassId) (aB : Nat → Nat) (bs : Nat → Int64) (bc : Nat → Int32) (f t h : Nat) (hf : f ≤ 48) (ht : t ≤ 48) (hh : h ≤ 6) : kI l yX0_fewest (xw yX0_fewest cX0_fewest 5 (some .int)) 0 G tc [.ref (aB 0), .int (nI f), .int (nI t), .int (nI h)] (wB tc aB bs bc) (nI (fN bs f t h)) (wB tc aB bs bc) := by
  refine kI_of [some (.ref (aB 0)), some (.int (nI f)), some (.int (nI t)), some (.int (nI h)), none] 1 (by decide) (Nat.le_of_ble_eq_true rfl) rfl ?_
  intro p e s m args below meth c A C
  refine xiload_1 C dX0_fewest_0 ?_
  refine xbipush C (nI 49) dX0_fewest_1 (by decide) ?_
  refine ximul C dX0_fewest_3 ?_
  refine xiload_2 C dX0_fewest_4 ?_
  refine xiadd C dX0_fewest_5 ?_
  rw [show nI f * nI 49 + nI t = nI (f * 49 + t) by rw [pk_mul, nI_add]]
  refine xistore_4 C dX0_fewest_6 rfl (by decide) ?_
  refine xiload_4 C dX0_fewest_8 ?_
  refine xif_lt C (tgt := 23) dX0_fewest_10 (by decide) (fun h10 => ?_) (fun h10 => ?_)
  · skip
    exact absurd h10 (nI_pos (by omega))
  · skip
    refine xiload_4 C dX0_fewest_13 ?_
    refine xaload_0 C dX0_fewest_15 ?_
    refine xget C 0 f_X0_11 dX0_fewest_16 rfl rfl ?_
    refine xlalen C 1 dX0_fewest_19 rfl ?_
    refine xicmp_lt C (tgt := 25) dX0_fewest_20 (by decide) (fun h20 => ?_) (fun h20 => ?_)
    · skip
      refine xaload_0 C dX0_fewest_25 ?_
      refine xget C 0 f_X0_11 dX0_fewest_26 rfl rfl ?_
      refine xiload_4 C dX0_fewest_29 ?_
      refine xlaldN C (f * 49 + t) 1 dX0_fewest_31 rfl (by omega) (rfl) (by decide) ?_
      refine xbipush C (nI 8) dX0_fewest_32 (by decide) ?_
      refine xiload_3 C dX0_fewest_34 ?_
      refine ximul C dX0_fewest_35 ?_
      rw [pk_mul 8 h]
      refine xlushr C dX0_fewest_36 ?_
      refine xl2i C dX0_fewest_37 ?_
      refine xsipush C (255) dX0_fewest_38 (by decide) ?_
      refine xiand C dX0_fewest_41 ?_
      exact xiret C dX0_fewest_42 (fN_get _ hh) (rfl)
    · skip
      exact absurd (nI_lt (by omega) (by decide)) h20
set_option maxHeartbeats 4000000 in
set_option maxRecDepth 100000 in
theorem c_X0_keep (l : Launch) (G : va_G) (tc : Nat → ClassId) (aB : Nat → Nat) (bs : Nat → Int64) (bc : Nat → Int32) (f t h v : Nat) (hf : f ≤ 48) (ht : t ≤ 48) (hh : h ≤ 6) : kV l yX0_keep (xw yX0_keep cX0_keep 7 none) 0 G tc [.ref (aB 0), .int (nI f), .int (nI t), .int (nI h), .int (nI v)] (wB tc aB bs bc) (wB tc aB (kp bs f t h v) bc) := by
  refine kV_of [some (.ref (aB 0)), some (.int (nI f)), some (.int (nI t)), some (.int (nI h)), some (.int (nI v)), none, none] 2 (by decide) (Nat.le_of_ble_eq_true rfl) rfl ?_
  intro p e s m args below meth c A C
  refine xiload_1 C dX0_keep_0 ?_
  refine xbipush C (nI 49) dX0_keep_1 (by decide) ?_
  refine ximul C dX0_keep_3 ?_
  refine xiload_2 C dX0_keep_4 ?_
  refine xiadd C dX0_keep_5 ?_
  rw [show nI f * nI 49 + nI t = nI (f * 49 + t) by rw [pk_mul, nI_add]]
  refine xistore_5 C dX0_keep_6 rfl (by decide) ?_
  refine xiload_5 C dX0_keep_8 ?_
  refine xif_lt C (tgt := 61) dX0_keep_10 (by decide) (fun h10 => ?_) (fun h10 => ?_)
  · skip
    exact absurd h10 (nI_pos (by omega))
  · skip
    refine xiload_5 C dX0_keep_13 ?_
    refine xaload_0 C dX0_keep_15 ?_
    refine xget C 0 f_X0_11 dX0_keep_16 rfl rfl ?_
    refine xlalen C 1 dX0_keep_19 rfl ?_
    refine xicmp_ge C (tgt := 61) dX0_keep_20 (by decide) (fun h20 => ?_) (fun h20 => ?_)
    · skip
      exact absurd h20 (nI_ge (by omega) (by decide))
    · skip
      refine xbipush C (nI 8) dX0_keep_23 (by decide) ?_
      refine xiload_3 C dX0_keep_25 ?_
      refine ximul C dX0_keep_26 ?_
      rw [pk_mul 8 h]
      refine xistore_6 C dX0_keep_27 rfl (by decide) ?_
      refine xaload_0 C dX0_keep_29 ?_
      refine xget C 0 f_X0_11 dX0_keep_30 rfl rfl ?_
      refine xiload_5 C dX0_keep_33 ?_
      refine xaload_0 C dX0_keep_35 ?_
      refine xget C 0 f_X0_11 dX0_keep_36 rfl rfl ?_
      refine xiload_5 C dX0_keep_39 ?_
      refine xlaldN C (f * 49 + t) 1 dX0_keep_41 rfl (by omega) (rfl) (by decide) ?_
      refine xldc2 C dX0_keep_42 cl_X0_109 ?_
      refine xiload_6 C dX0_keep_45 ?_
      refine xlshl C dX0_keep_47 ?_
      refine xldc2 C dX0_keep_48 cl_X0_111 ?_
      refine xlxor C dX0_keep_51 ?_
      refine xland C dX0_keep_52 ?_
      refine xiload_4 C dX0_keep_53 ?_
      refine xi2l C dX0_keep_55 ?_
      refine xiload_6 C dX0_keep_56 ?_
      refine xlshl C dX0_keep_58 ?_
      refine xlor C dX0_keep_59 ?_
      refine xlastN C (f * 49 + t) 1 (wB tc aB (kp bs f t h v) bc) dX0_keep_60 rfl (by omega) (rfl) (by decide) rfl ?_
      exact xvret C dX0_keep_61 (rfl)
set_option maxHeartbeats 4000000 in
set_option maxRecDepth 100000 in
theorem c_X0_fewestInside (l : Launch) (G : va_G) (tc : Nat → ClassId) (aB : Nat → Nat) (bs : Nat → Int64) (bc : Nat → Int32) (aK : Nat → Nat) (ko kc ki : Nat → Int32) (kr ku : Int32) (f q k : Nat) (hf : f < 48) (hp : q ≤ 48) (hk6 : k ≤ 6) : kI l yX0_fewestInside (xw yX0_fewestInside cX0_fewestInside 5 (some .int)) 1 G tc [.ref (aB 0), .int (nI f), .int (nI q), .int (nI k), .ref (aK 0)] (wB tc aB bs bc ++ wK tc aK ko kc ki kr ku) (nI (fIn kr bs f q k)) (wB tc aB bs bc ++ wK tc aK ko kc ki kr ku) := by
  refine kI_of [some (.ref (aB 0)), some (.int (nI f)), some (.int (nI q)), some (.int (nI k)), some (.ref (aK 0))] 0 (by decide) (Nat.le_of_ble_eq_true rfl) rfl ?_
  intro p e s m args below meth c A C
  refine xaload_4 C dX0_fewestInside_0 ?_
  refine xget C 3 f_X0_28 dX0_fewestInside_2 rfl rfl ?_
  refine xiload_3 C dX0_fewestInside_5 ?_
  refine xcallNi0 C m_X5_holdsKind C.E.2.1 (c_X5_holdsKind l G tc kr (nI k)) dX0_fewestInside_6 ([] : List Nat) rfl rfl rfl (by decide) rfl (Nat.le_of_ble_eq_true rfl) ⟨by decide, by decide⟩ ?_
  refine xif_eq C (tgt := 16) dX0_fewestInside_9 (by decide) (fun h9 => ?_) (fun h9 => ?_)
  · skip
    have h9 := bI0 h9
    refine xaload_0 C dX0_fewestInside_16 ?_
    refine xiload_1 C dX0_fewestInside_17 ?_
    refine xiconst C (1) dX0_fewestInside_18 (by decide) ?_
    refine xiadd C dX0_fewestInside_19 ?_
    rw [nI_1 f]
    refine xiload_2 C dX0_fewestInside_20 ?_
    refine xiload_3 C dX0_fewestInside_21 ?_
    refine xcallVi0 C m_X0_fewest k_X0_49 (c_X0_fewest l G tc aB bs bc (f + 1) q k (by omega) hp hk6) dX0_fewestInside_22 0 rfl [0, 1, 2] rfl rfl rfl (by decide) rfl (Nat.le_of_ble_eq_true rfl) ⟨by decide, by decide⟩ ?_
    exact xiret C dX0_fewestInside_25 (by rw [fIn, if_neg (by simp [h9])]) (rfl)
  · skip
    have h9 := bI1 h9
    refine xiconst C (0) dX0_fewestInside_12 (by decide) ?_
    refine xgoto C (tgt := 25) dX0_fewestInside_13 (by decide) ?_
    exact xiret C dX0_fewestInside_25 (by rw [fIn, if_pos (by simp [h9])]; rfl) (rfl)
set_option maxHeartbeats 4000000 in
set_option maxRecDepth 100000 in
theorem c_X0_fewestBetween (l : Launch) (G : va_G) (tc : Nat → ClassId) (aB : Nat → Nat) (bs : Nat → Int64) (bc : Nat → Int32) (aK : Nat → Nat) (ko kc ki : Nat → Int32) (kr ku : Int32) (f q : Nat) (hf : f < 48) (hq : q ≤ 48) (pd : Int32) : kI l yX0_fewestBetween (xw yX0_fewestBetween cX0_fewestBetween 7 (some .int)) 2 G tc [.ref (aB 0), .int (nI f), .int (nI q), .int pd, .ref (aK 0)] (wB tc aB bs bc ++ wK tc aK ko kc ki kr ku) (nI (fBt kr bs f q pd)) (wB tc aB bs bc ++ wK tc aK ko kc ki kr ku) := by
  refine kI_of [some (.ref (aB 0)), some (.int (nI f)), some (.int (nI q)), some (.int pd), some (.ref (aK 0)), none, none] 2 (by decide) (Nat.le_of_ble_eq_true rfl) rfl ?_
  intro p e s m args below meth c A C
  have loop : ∀ (n k z : Nat), k + n = 6 → z ≤ 48 → fBtG kr bs f q pd n k z = fBt kr bs f q pd → xAT p l e (xR 2 0 0) s m args below meth c (xQi below args s G A (nI (fBt kr bs f q pd)) (wB tc aB bs bc ++ wK tc aK ko kc ki kr ku)) G A 7 0 0 (wB tc aB bs bc ++ wK tc aK ko kc ki kr ku) [some (.ref (aB 0)), some (.int (nI f)), some (.int (nI q)), some (.int pd), some (.ref (aK 0)), some (.int (nI z)), some (.int (nI k))] 7 [] := by
    intro n
    induction n with
    | zero =>
      intro k z hk6 hz48 hz
      have hk6 : k = 6 := hk6
      subst hk6
      refine xiload_6 C dX0_fewestBetween_7 ?_
      refine xbipush C (6) dX0_fewestBetween_9 (by decide) ?_
      refine xicmp_ge C (tgt := 46) dX0_fewestBetween_11 (by decide) (fun h11 => ?_) (fun h11 => ?_)
      · skip
        refine xiload_5 C dX0_fewestBetween_46 ?_
        exact xiret C dX0_fewestBetween_48 (congrArg nI hz) (rfl)
      · skip
        exact absurd (Int32.le_refl _) h11
    | succ n ih =>
      intro k z hk6 hz48 hz
      rw [fBtG] at hz
      have hkl : k < 6 := by omega
      refine xiload_6 C dX0_fewestBetween_7 ?_
      refine xbipush C (6) dX0_fewestBetween_9 (by decide) ?_
      refine xicmp_ge C (tgt := 46) dX0_fewestBetween_11 (by decide) (fun h11 => ?_) (fun h11 => ?_)
      · skip
        exact absurd h11 (nI_ge hkl (by decide))
      · skip
        refine xiload_3 C dX0_fewestBetween_14 ?_
        refine xiload_6 C dX0_fewestBetween_15 ?_
        refine xcallNi0 C m_X5_holdsKind C.E.2.1 (c_X5_holdsKind l G tc pd (nI k)) dX0_fewestBetween_17 ([] : List Nat) rfl rfl rfl (by decide) rfl (Nat.le_of_ble_eq_true rfl) ⟨by decide, by decide⟩ ?_
        refine xif_eq C (tgt := 40) dX0_fewestBetween_20 (by decide) (fun h20 => ?_) (fun h20 => ?_)
        · skip
          have h20 := bI0 h20
          refine xiinc_6 C (nI (k + 1)) dX0_fewestBetween_40 (nI_1 k) rfl (by decide) ?_
          refine xgoto C (tgt := 7) dX0_fewestBetween_43 (by decide) ?_
          exact ih (k + 1) z (by omega) hz48 (by rw [← hz, if_neg (by rw [h20]; exact Bool.false_ne_true)])
        · skip
          have h20 := bI1 h20
          refine xiload_5 C dX0_fewestBetween_23 ?_
          refine xaload_0 C dX0_fewestBetween_25 ?_
          refine xiload_1 C dX0_fewestBetween_26 ?_
          refine xiload_2 C dX0_fewestBetween_27 ?_
          refine xiload_6 C dX0_fewestBetween_28 ?_
          refine xaload_4 C dX0_fewestBetween_30 ?_
          refine xcallVi0 C m_X0_fewestInside k_X0_70 (c_X0_fewestInside l G tc aB bs bc aK ko kc ki kr ku f q k hf hq (by omega)) dX0_fewestBetween_32 0 rfl [0, 1, 2, 3, 4, 5, 6] rfl rfl rfl (by decide) rfl (Nat.le_of_ble_eq_true rfl) ⟨by decide, by decide⟩ ?_
          refine xmmin C dX0_fewestBetween_35 k_X0_60 (Nat.le_of_ble_eq_true rfl) ⟨by decide, by decide⟩ ?_
          rw [nI_mn (by omega) (Nat.lt_trans (fIn_lt kr bs f q k) (by decide))]
          refine xistore_5 C dX0_fewestBetween_38 rfl (by decide) ?_
          refine xiinc_6 C (nI (k + 1)) dX0_fewestBetween_40 (nI_1 k) rfl (by decide) ?_
          refine xgoto C (tgt := 7) dX0_fewestBetween_43 (by decide) ?_
          exact ih (k + 1) _ (by omega) (Nat.le_trans mn_le hz48) (by rw [← hz, if_pos h20])
  refine xbipush C (nI 48) dX0_fewestBetween_0 (by decide) ?_
  refine xistore_5 C dX0_fewestBetween_2 rfl (by decide) ?_
  refine xiconst C (nI 0) dX0_fewestBetween_4 (by decide) ?_
  refine xistore_6 C dX0_fewestBetween_5 rfl (by decide) ?_
  exact loop 6 0 48 rfl (Nat.le_refl _) rfl
set_option maxHeartbeats 4000000 in
set_option maxRecDepth 100000 in
theorem c_X0_fewestIfOpening (l : Launch) (G : va_G) (tc : Nat → ClassId) (aB : Nat → Nat) (bs : Nat → Int64) (bc : Nat → Int32) (aM : Nat → Nat) (mp mb mo mc : Nat → Int32) (mm : Nat) (aK : Nat → Nat) (ko kc ki : Nat → Int32) (kr ku : Int32) (f t h : Nat) (hft : f < t) (ht : t ≤ 48) (hh : h ≤ 6) (od : Int32) : kI l yX0_fewestIfOpening (xw yX0_fewestIfOpening cX0_fewestIfOpening 11 (some .int)) 3 G tc [.ref (aB 0), .int (nI f), .int (nI t), .int (nI h), .int od, .ref (aM 0), .ref (aK 0)] (wB tc aB bs bc ++ (wM tc aM mp mb mo mc mm ++ wK tc aK ko kc ki kr ku)) (nI (fIo kr mc bs f t h od)) (wB tc aB bs bc ++ (wM tc aM mp mb mo mc mm ++ wK tc aK ko kc ki kr ku)) := by
  refine kI_of [some (.ref (aB 0)), some (.int (nI f)), some (.int (nI t)), some (.int (nI h)), some (.int od), some (.ref (aM 0)), some (.ref (aK 0)), none, none, none, none] 4 (by decide) (Nat.le_of_ble_eq_true rfl) rfl ?_
  intro p e s m args below meth c A C
  have hf : f < 48 := by omega
  have loop : ∀ (n q z : Nat), q + n = t → z ≤ 48 → fIoG kr mc bs f t h od n q z = fIo kr mc bs f t h od → xAT p l e (xR 3 0 0) s m args below meth c (xQi below args s G A (nI (fIo kr mc bs f t h od)) (wB tc aB bs bc ++ (wM tc aM mp mb mo mc mm ++ wK tc aK ko kc ki kr ku))) G A 11 0 0 (wB tc aB bs bc ++ (wM tc aM mp mb mo mc mm ++ wK tc aK ko kc ki kr ku)) [some (.ref (aB 0)), some (.int (nI f)), some (.int (nI t)), some (.int (nI h)), some (.int od), some (.ref (aM 0)), some (.ref (aK 0)), some (.int (nI z)), some (.int (nI q)), none, none] 9 [] := by
    intro n
    induction n with
    | zero =>
      intro q z hq hz48 hz
      have hq : q = t := hq
      subst hq
      refine xiload_8 C dX0_fewestIfOpening_9 ?_
      refine xiload_2 C dX0_fewestIfOpening_11 ?_
      refine xicmp_ge C (tgt := 77) dX0_fewestIfOpening_12 (by decide) (fun h12 => ?_) (fun h12 => ?_)
      · skip
        refine xiload_7 C dX0_fewestIfOpening_77 ?_
        exact xiret C dX0_fewestIfOpening_79 (congrArg nI hz) (rfl)
      · skip
        exact absurd (Int32.le_refl _) h12
    | succ n ih =>
      intro q z hq hz48 hz
      rw [fIoG] at hz
      have hqt : q < t := by omega
      refine xiload_8 C dX0_fewestIfOpening_9 ?_
      refine xiload_2 C dX0_fewestIfOpening_11 ?_
      refine xicmp_ge C (tgt := 77) dX0_fewestIfOpening_12 (by decide) (fun h12 => ?_) (fun h12 => ?_)
      · skip
        exact absurd h12 (nI_ge hqt (by omega))
      · skip
        refine xiload_7 C dX0_fewestIfOpening_15 ?_
        refine xif_le C (tgt := 77) dX0_fewestIfOpening_17 (by decide) (fun h17 => ?_) (fun h17 => ?_)
        · skip
          have hz0 : z = 0 := by
            have := (nI_leI (a := z) (b := 0) (by omega) (by decide)).mp h17
            omega
          rw [if_pos hz0] at hz
          refine xiload_7 C dX0_fewestIfOpening_77 ?_
          exact xiret C dX0_fewestIfOpening_79 (congrArg nI hz) (rfl)
        · skip
          have hz0 : ¬ z = 0 := fun q => h17 (by rw [q]; exact Int32.le_refl _)
          rw [if_neg hz0] at hz
          refine xiload_4 C dX0_fewestIfOpening_20 ?_
          refine xaload_5 C dX0_fewestIfOpening_22 ?_
          refine xget C 3 f_X0_25 dX0_fewestIfOpening_24 rfl rfl ?_
          refine xiload_8 C dX0_fewestIfOpening_27 ?_
          refine xialdN C (q) 7 dX0_fewestIfOpening_29 rfl (by omega) (rfl) (by decide) ?_
          refine xiand C dX0_fewestIfOpening_30 ?_
          refine xistore_9 C dX0_fewestIfOpening_31 rfl (by decide) ?_
          refine xiload_9 C dX0_fewestIfOpening_33 ?_
          refine xif_eq C (tgt := 71) dX0_fewestIfOpening_35 (by decide) (fun h35 => ?_) (fun h35 => ?_)
          · skip
            refine xiinc_8 C (nI (q + 1)) dX0_fewestIfOpening_71 (nI_1 q) rfl (by decide) ?_
            refine xgoto C (tgt := 9) dX0_fewestIfOpening_74 (by decide) ?_
            refine xfg_9 ?_
            refine xfg_10 ?_
            exact ih (q + 1) z (by omega) hz48 (by rw [← hz, if_pos h35])
          · skip
            refine xaload_0 C dX0_fewestIfOpening_38 ?_
            refine xiload_8 C dX0_fewestIfOpening_39 ?_
            refine xiconst C (1) dX0_fewestIfOpening_41 (by decide) ?_
            refine xiadd C dX0_fewestIfOpening_42 ?_
            rw [nI_1 q]
            refine xiload_2 C dX0_fewestIfOpening_43 ?_
            refine xiload_3 C dX0_fewestIfOpening_44 ?_
            refine xcallVi0 C m_X0_fewest k_X0_49 (c_X0_fewest l G tc aB bs bc (q + 1) t h (by omega) ht hh) dX0_fewestIfOpening_45 0 rfl [0, 1, 2] rfl rfl rfl (by decide) rfl (Nat.le_of_ble_eq_true rfl) ⟨by decide, by decide⟩ ?_
            refine xistore_10 C dX0_fewestIfOpening_48 rfl (by decide) ?_
            refine xiload_7 C dX0_fewestIfOpening_50 ?_
            refine xiload_10 C dX0_fewestIfOpening_52 ?_
            refine xaload_0 C dX0_fewestIfOpening_54 ?_
            refine xiload_1 C dX0_fewestIfOpening_55 ?_
            refine xiload_8 C dX0_fewestIfOpening_56 ?_
            refine xiload_9 C dX0_fewestIfOpening_58 ?_
            refine xaload_6 C dX0_fewestIfOpening_60 ?_
            refine xcallVi0 C m_X0_fewestBetween k_X0_66 (c_X0_fewestBetween l G tc aB bs bc aK ko kc ki kr ku f q hf (by omega) (od &&& mc q)) dX0_fewestIfOpening_62 0 rfl [0, 1, 2, 8, 9, 10, 11] rfl rfl rfl (by decide) rfl (Nat.le_of_ble_eq_true rfl) ⟨by decide, by decide⟩ ?_
            refine xiadd C dX0_fewestIfOpening_65 ?_
            rw [nI_add]
            refine xmmin C dX0_fewestIfOpening_66 k_X0_60 (Nat.le_of_ble_eq_true rfl) ⟨by decide, by decide⟩ ?_
            rw [nI_mn (by omega) (by have := fN_lt bs (q + 1) t h; have := fBt_le (kr := kr) (bs := bs) (f := f) (p := q) (pd := od &&& mc q); omega)]
            refine xistore_7 C dX0_fewestIfOpening_69 rfl (by decide) ?_
            refine xiinc_8 C (nI (q + 1)) dX0_fewestIfOpening_71 (nI_1 q) rfl (by decide) ?_
            refine xgoto C (tgt := 9) dX0_fewestIfOpening_74 (by decide) ?_
            refine xfg_9 ?_
            refine xfg_10 ?_
            exact ih (q + 1) _ (by omega) (Nat.le_trans mn_le hz48) (by rw [← hz, if_neg h35])
  refine xbipush C (nI 48) dX0_fewestIfOpening_0 (by decide) ?_
  refine xistore_7 C dX0_fewestIfOpening_2 rfl (by decide) ?_
  refine xiload_1 C dX0_fewestIfOpening_4 ?_
  refine xiconst C (1) dX0_fewestIfOpening_5 (by decide) ?_
  refine xiadd C dX0_fewestIfOpening_6 ?_
  rw [nI_1 f]
  refine xistore_8 C dX0_fewestIfOpening_7 rfl (by decide) ?_
  exact loop (t - (f + 1)) (f + 1) 48 (by omega) (Nat.le_refl _) rfl
set_option maxHeartbeats 4000000 in
set_option maxRecDepth 100000 in
theorem c_X0_fillStretchesTo (l : Launch) (G : va_G) (tc : Nat → ClassId) (aB : Nat → Nat) (bs : Nat → Int64) (bc : Nat → Int32) (aM : Nat → Nat) (mp mb mo mc : Nat → Int32) (mm : Nat) (aK : Nat → Nat) (ko kc ki : Nat → Int32) (kr ku : Int32) (t h : Nat) (ht : t ≤ 48) (hh : h ≤ 6) (al : Int32) (hal : alw ki kr ku (nI h) = al) (r : Nat → Int64) (hr : fsT kr mo mc t h al bs = r) : kV l yX0_fillStretchesTo (xw yX0_fillStretchesTo cX0_fillStretchesTo 9 none) 4 G tc [.ref (aB 0), .int (nI t), .int (nI h), .ref (aM 0), .ref (aK 0)] (wB tc aB bs bc ++ (wM tc aM mp mb mo mc mm ++ wK tc aK ko kc ki kr ku)) (wB tc aB (r) bc ++ (wM tc aM mp mb mo mc mm ++ wK tc aK ko kc ki kr ku)) := by
  refine kV_of [some (.ref (aB 0)), some (.int (nI t)), some (.int (nI h)), some (.ref (aM 0)), some (.ref (aK 0)), none, none, none, none] 4 (by decide) (Nat.le_of_ble_eq_true rfl) rfl ?_
  intro p e s m args below meth c A C
  have loop : ∀ (n : Nat) (bs : Nat → Int64), n ≤ t → fsTG kr mo mc t h al n bs = r → xAT p l e (xR 4 0 0) s m args below meth c (xQv below args s G A (wB tc aB (r) bc ++ (wM tc aM mp mb mo mc mm ++ wK tc aK ko kc ki kr ku))) G A 9 0 0 (wB tc aB (bs) bc ++ (wM tc aM mp mb mo mc mm ++ wK tc aK ko kc ki kr ku)) [some (.ref (aB 0)), some (.int (nI t)), some (.int (nI h)), some (.ref (aM 0)), some (.ref (aK 0)), some (.int al), some (.int (nI n - 1)), none, none] 21 [] := by
    intro n
    induction n with
    | zero =>
      intro bs hn hz
      have hz : bs = r := hz
      refine xiload_6 C dX0_fillStretchesTo_21 ?_
      refine xif_lt C (tgt := 93) dX0_fillStretchesTo_23 (by decide) (fun h23 => ?_) (fun h23 => ?_)
      · skip
        exact xvret C dX0_fillStretchesTo_93 (by rw [hz])
      · skip
        exact absurd (by decide) h23
    | succ n ih =>
      intro bs hn hz
      rw [nI_pred]
      rw [fsTG] at hz
      refine xiload_6 C dX0_fillStretchesTo_21 ?_
      refine xif_lt C (tgt := 93) dX0_fillStretchesTo_23 (by decide) (fun h23 => ?_) (fun h23 => ?_)
      · skip
        exact absurd h23 (nI_pos (by omega))
      · skip
        refine xiconst C (nI 1) dX0_fillStretchesTo_26 (by decide) ?_
        refine xaload_0 C dX0_fillStretchesTo_27 ?_
        refine xiload_6 C dX0_fillStretchesTo_28 ?_
        refine xiconst C (1) dX0_fillStretchesTo_30 (by decide) ?_
        refine xiadd C dX0_fillStretchesTo_31 ?_
        rw [nI_1 n]
        refine xiload_1 C dX0_fillStretchesTo_32 ?_
        refine xiload_2 C dX0_fillStretchesTo_33 ?_
        refine xcallVi0 C m_X0_fewest k_X0_49 (c_X0_fewest l G tc aB bs bc (n + 1) t h (by omega) ht hh) dX0_fillStretchesTo_34 0 rfl [0, 1, 2] rfl rfl rfl (by decide) rfl (Nat.le_of_ble_eq_true rfl) ⟨by decide, by decide⟩ ?_
        refine xiadd C dX0_fillStretchesTo_37 ?_
        rw [nI_add]
        refine xistore_7 C dX0_fillStretchesTo_38 rfl (by decide) ?_
        refine xaload_3 C dX0_fillStretchesTo_40 ?_
        refine xget C 3 f_X0_53 dX0_fillStretchesTo_41 rfl rfl ?_
        refine xiload_6 C dX0_fillStretchesTo_44 ?_
        refine xialdN C (n) 6 dX0_fillStretchesTo_46 rfl (by omega) (rfl) (by decide) ?_
        refine xiload_5 C dX0_fillStretchesTo_47 ?_
        refine xiand C dX0_fillStretchesTo_49 ?_
        refine xistore_8 C dX0_fillStretchesTo_50 rfl (by decide) ?_
        refine xiload_8 C dX0_fillStretchesTo_52 ?_
        refine xif_eq C (tgt := 77) dX0_fillStretchesTo_54 (by decide) (fun h54 => ?_) (fun h54 => ?_)
        · skip
          have hv : 1 + fN bs (n + 1) t h = fsV kr mo mc t h al bs n := by rw [fsV, if_pos h54]
          rw [hv]
          refine xaload_0 C dX0_fillStretchesTo_77 ?_
          refine xiload_6 C dX0_fillStretchesTo_78 ?_
          refine xiload_1 C dX0_fillStretchesTo_80 ?_
          refine xiload_2 C dX0_fillStretchesTo_81 ?_
          refine xiload_7 C dX0_fillStretchesTo_82 ?_
          refine xcallVv C m_X0_keep k_X0_45 (c_X0_keep l G tc aB bs bc n t h (fsV kr mo mc t h al bs n) (by omega) ht hh) dX0_fillStretchesTo_84 0 rfl [0, 1, 2] (wB tc aB (kp bs n t h (fsV kr mo mc t h al bs n)) bc ++ (wM tc aM mp mb mo mc mm ++ wK tc aK ko kc ki kr ku)) rfl rfl rfl rfl rfl (by decide) rfl (Nat.le_of_ble_eq_true rfl) ⟨by decide, by decide⟩ ?_
          refine xiinc_6 C (nI n - 1) dX0_fillStretchesTo_87 (i32_m1 _) rfl (by decide) ?_
          refine xgoto C (tgt := 21) dX0_fillStretchesTo_90 (by decide) ?_
          refine xfg_7 ?_
          refine xfg_8 ?_
          exact ih _ (by omega) hz
        · skip
          have hv : mn (1 + fN bs (n + 1) t h) (fIo kr mc bs n t h (mo n &&& al)) = fsV kr mo mc t h al bs n := by rw [fsV, if_neg h54]
          refine xiload_7 C dX0_fillStretchesTo_57 ?_
          refine xaload_0 C dX0_fillStretchesTo_59 ?_
          refine xiload_6 C dX0_fillStretchesTo_60 ?_
          refine xiload_1 C dX0_fillStretchesTo_62 ?_
          refine xiload_2 C dX0_fillStretchesTo_63 ?_
          refine xiload_8 C dX0_fillStretchesTo_64 ?_
          refine xaload_3 C dX0_fillStretchesTo_66 ?_
          refine xaload_4 C dX0_fillStretchesTo_67 ?_
          refine xcallVi0 C m_X0_fewestIfOpening k_X0_56 (c_X0_fewestIfOpening l G tc aB bs bc aM mp mb mo mc mm aK ko kc ki kr ku n t h (by omega) ht hh (mo n &&& al)) dX0_fillStretchesTo_69 0 rfl [0, 1, 2, 3, 4, 5, 6, 7, 8, 9, 10, 11] rfl rfl rfl (by decide) rfl (Nat.le_of_ble_eq_true rfl) ⟨by decide, by decide⟩ ?_
          refine xmmin C dX0_fillStretchesTo_72 k_X0_60 (Nat.le_of_ble_eq_true rfl) ⟨by decide, by decide⟩ ?_
          rw [nI_mn (x := 1 + fN bs (n + 1) t h) (y := fIo kr mc bs n t h (mo n &&& al)) (by have := fN_lt bs (n + 1) t h; omega) (Nat.lt_of_le_of_lt (fIoG_le _ _ _) (by decide))]
          rw [hv]
          refine xistore_7 C dX0_fillStretchesTo_75 rfl (by decide) ?_
          refine xaload_0 C dX0_fillStretchesTo_77 ?_
          refine xiload_6 C dX0_fillStretchesTo_78 ?_
          refine xiload_1 C dX0_fillStretchesTo_80 ?_
          refine xiload_2 C dX0_fillStretchesTo_81 ?_
          refine xiload_7 C dX0_fillStretchesTo_82 ?_
          refine xcallVv C m_X0_keep k_X0_45 (c_X0_keep l G tc aB bs bc n t h (fsV kr mo mc t h al bs n) (by omega) ht hh) dX0_fillStretchesTo_84 0 rfl [0, 1, 2] (wB tc aB (kp bs n t h (fsV kr mo mc t h al bs n)) bc ++ (wM tc aM mp mb mo mc mm ++ wK tc aK ko kc ki kr ku)) rfl rfl rfl rfl rfl (by decide) rfl (Nat.le_of_ble_eq_true rfl) ⟨by decide, by decide⟩ ?_
          refine xiinc_6 C (nI n - 1) dX0_fillStretchesTo_87 (i32_m1 _) rfl (by decide) ?_
          refine xgoto C (tgt := 21) dX0_fillStretchesTo_90 (by decide) ?_
          refine xfg_7 ?_
          refine xfg_8 ?_
          exact ih _ (by omega) hz
  refine xaload_4 C dX0_fillStretchesTo_0 ?_
  refine xiload_2 C dX0_fillStretchesTo_2 ?_
  refine xcallVi0 C m_X2_allowedIn k_X0_41 (c_X2_allowedIn l G tc aK ko kc ki kr ku (nI h)) dX0_fillStretchesTo_3 8 rfl [8, 9, 10, 11] rfl rfl rfl (by decide) rfl (Nat.le_of_ble_eq_true rfl) ⟨by decide, by decide⟩ ?_
  rw [hal]
  refine xistore_5 C dX0_fillStretchesTo_6 rfl (by decide) ?_
  refine xaload_0 C dX0_fillStretchesTo_8 ?_
  refine xiload_1 C dX0_fillStretchesTo_9 ?_
  refine xiload_1 C dX0_fillStretchesTo_10 ?_
  refine xiload_2 C dX0_fillStretchesTo_11 ?_
  refine xiconst C (nI 0) dX0_fillStretchesTo_12 (by decide) ?_
  refine xcallVv C m_X0_keep k_X0_45 (c_X0_keep l G tc aB bs bc t t h 0 (by omega) ht hh) dX0_fillStretchesTo_13 0 rfl [0, 1, 2] (wB tc aB (kp bs t t h 0) bc ++ (wM tc aM mp mb mo mc mm ++ wK tc aK ko kc ki kr ku)) rfl rfl rfl rfl rfl (by decide) rfl (Nat.le_of_ble_eq_true rfl) ⟨by decide, by decide⟩ ?_
  refine xiload_1 C dX0_fillStretchesTo_16 ?_
  refine xiconst C (1) dX0_fillStretchesTo_17 (by decide) ?_
  refine xisub C dX0_fillStretchesTo_18 ?_
  refine xistore_6 C dX0_fillStretchesTo_19 rfl (by decide) ?_
  exact loop t _ (Nat.le_refl _) hr
set_option maxHeartbeats 4000000 in
set_option maxRecDepth 100000 in
theorem c_X0_fillStretches (l : Launch) (G : va_G) (tc : Nat → ClassId) (aB : Nat → Nat) (bs : Nat → Int64) (bc : Nat → Int32) (aM : Nat → Nat) (mp mb mo mc : Nat → Int32) (mm : Nat) (aK : Nat → Nat) (ko kc ki : Nat → Int32) (kr ku : Int32) (hm : mm ≤ 48) (r : Nat → Int64) (hr : fsAll ki kr ku mo mc mm bs = r) : kV l yX0_fillStretches (xw yX0_fillStretches cX0_fillStretches 6 none) 5 G tc [.ref (aB 0), .ref (aM 0), .ref (aK 0)] (wB tc aB bs bc ++ (wM tc aM mp mb mo mc mm ++ wK tc aK ko kc ki kr ku)) (wB tc aB (r) bc ++ (wM tc aM mp mb mo mc mm ++ wK tc aK ko kc ki kr ku)) := by
  refine kV_of [some (.ref (aB 0)), some (.ref (aM 0)), some (.ref (aK 0)), none, none, none] 3 (by decide) (Nat.le_of_ble_eq_true rfl) rfl ?_
  intro p e s m args below meth c A C
  have loopK : ∀ (r2 : Nat → Int64) (t : Nat), t < mm → (xAT p l e (xR 5 0 0) s m args below meth c (xQv below args s G A (wB tc aB (r) bc ++ (wM tc aM mp mb mo mc mm ++ wK tc aK ko kc ki kr ku))) G A 6 0 0 (wB tc aB (r2) bc ++ (wM tc aM mp mb mo mc mm ++ wK tc aK ko kc ki kr ku)) [some (.ref (aB 0)), some (.ref (aM 0)), some (.ref (aK 0)), some (.int (nI t)), none, none] 60 []) → ∀ (n k : Nat) (bs : Nat → Int64), k + n = 6 → fsKG ki kr ku mo mc (mc t &&& (kr ^^^ (-1))) t n k bs = r2 → xAT p l e (xR 5 0 0) s m args below meth c (xQv below args s G A (wB tc aB (r) bc ++ (wM tc aM mp mb mo mc mm ++ wK tc aK ko kc ki kr ku))) G A 6 0 0 (wB tc aB (bs) bc ++ (wM tc aM mp mb mo mc mm ++ wK tc aK ko kc ki kr ku)) [some (.ref (aB 0)), some (.ref (aM 0)), some (.ref (aK 0)), some (.int (nI t)), some (.int (mc t &&& (kr ^^^ (-1)))), some (.int (nI k))] 28 [] := by
    intro r2 t htm hend n
    induction n with
    | zero =>
      intro k bs hk6 hz
      have hk6 : k = 6 := hk6
      subst hk6
      have hz : bs = r2 := hz
      subst hz
      refine xiload_5 C dX0_fillStretches_28 ?_
      refine xbipush C (6) dX0_fillStretches_30 (by decide) ?_
      refine xicmp_ge C (tgt := 60) dX0_fillStretches_32 (by decide) (fun h32 => ?_) (fun h32 => ?_)
      · skip
        refine xfg_4 ?_
        refine xfg_5 ?_
        exact hend
      · skip
        exact absurd (Int32.le_refl _) h32
    | succ n ih =>
      intro k bs hk6 hz
      rw [fsKG] at hz
      have hkl : k < 6 := by omega
      refine xiload_5 C dX0_fillStretches_28 ?_
      refine xbipush C (6) dX0_fillStretches_30 (by decide) ?_
      refine xicmp_ge C (tgt := 60) dX0_fillStretches_32 (by decide) (fun h32 => ?_) (fun h32 => ?_)
      · skip
        exact absurd h32 (nI_ge hkl (by decide))
      · skip
        refine xiload_4 C dX0_fillStretches_35 ?_
        refine xiload_5 C dX0_fillStretches_37 ?_
        refine xcallNi0 C m_X5_holdsKind C.E.2.1 (c_X5_holdsKind l G tc _ (nI k)) dX0_fillStretches_39 ([] : List Nat) rfl rfl rfl (by decide) rfl (Nat.le_of_ble_eq_true rfl) ⟨by decide, by decide⟩ ?_
        refine xif_eq C (tgt := 54) dX0_fillStretches_42 (by decide) (fun h42 => ?_) (fun h42 => ?_)
        · skip
          have h42 := bI0 h42
          refine xiinc_5 C (nI (k + 1)) dX0_fillStretches_54 (nI_1 k) rfl (by decide) ?_
          refine xgoto C (tgt := 28) dX0_fillStretches_57 (by decide) ?_
          exact ih (k + 1) bs (by omega) (by rw [← hz, if_neg (by rw [h42]; exact Bool.false_ne_true)])
        · skip
          have h42 := bI1 h42
          refine xaload_0 C dX0_fillStretches_45 ?_
          refine xiload_3 C dX0_fillStretches_46 ?_
          refine xiload_5 C dX0_fillStretches_47 ?_
          refine xaload_1 C dX0_fillStretches_49 ?_
          refine xaload_2 C dX0_fillStretches_50 ?_
          refine xcallVv C m_X0_fillStretchesTo k_X0_37 (c_X0_fillStretchesTo l G tc aB bs bc aM mp mb mo mc mm aK ko kc ki kr ku t k (by omega) (by omega) _ rfl _ rfl) dX0_fillStretches_51 0 rfl [0, 1, 2, 3, 4, 5, 6, 7, 8, 9, 10, 11] (wB tc aB (fsT kr mo mc t k (alw ki kr ku (nI k)) bs) bc ++ (wM tc aM mp mb mo mc mm ++ wK tc aK ko kc ki kr ku)) rfl rfl rfl rfl rfl (by decide) rfl (Nat.le_of_ble_eq_true rfl) ⟨by decide, by decide⟩ ?_
          refine xiinc_5 C (nI (k + 1)) dX0_fillStretches_54 (nI_1 k) rfl (by decide) ?_
          refine xgoto C (tgt := 28) dX0_fillStretches_57 (by decide) ?_
          exact ih (k + 1) _ (by omega) (by rw [← hz, if_pos h42])
  have loopT : ∀ (n t : Nat) (bs : Nat → Int64), t + n = mm → fsT kr mo mc mm 6 (alw ki kr ku (nI 6)) (fsAG ki kr ku mo mc n t bs) = r → xAT p l e (xR 5 0 0) s m args below meth c (xQv below args s G A (wB tc aB (r) bc ++ (wM tc aM mp mb mo mc mm ++ wK tc aK ko kc ki kr ku))) G A 6 0 0 (wB tc aB (bs) bc ++ (wM tc aM mp mb mo mc mm ++ wK tc aK ko kc ki kr ku)) [some (.ref (aB 0)), some (.ref (aM 0)), some (.ref (aK 0)), some (.int (nI t)), none, none] 2 [] := by
    intro n
    induction n with
    | zero =>
      intro t bs ht hz
      have ht : t = mm := ht
      subst ht
      refine xiload_3 C dX0_fillStretches_2 ?_
      refine xaload_1 C dX0_fillStretches_3 ?_
      refine xget C 3 f_X0_19 dX0_fillStretches_4 rfl rfl ?_
      refine xicmp_ge C (tgt := 66) dX0_fillStretches_7 (by decide) (fun h7 => ?_) (fun h7 => ?_)
      · skip
        refine xaload_0 C dX0_fillStretches_66 ?_
        refine xaload_1 C dX0_fillStretches_67 ?_
        refine xget C 3 f_X0_19 dX0_fillStretches_68 rfl rfl ?_
        refine xbipush C (nI 6) dX0_fillStretches_71 (by decide) ?_
        refine xaload_1 C dX0_fillStretches_73 ?_
        refine xaload_2 C dX0_fillStretches_74 ?_
        refine xcallVv C m_X0_fillStretchesTo k_X0_37 (c_X0_fillStretchesTo l G tc aB bs bc aM mp mb mo mc t aK ko kc ki kr ku t 6 hm (by decide) _ rfl r hz) dX0_fillStretches_75 0 rfl [0, 1, 2, 3, 4, 5, 6, 7, 8, 9, 10, 11] (wB tc aB (r) bc ++ (wM tc aM mp mb mo mc t ++ wK tc aK ko kc ki kr ku)) rfl rfl rfl rfl rfl (by decide) rfl (Nat.le_of_ble_eq_true rfl) ⟨by decide, by decide⟩ ?_
        exact xvret C dX0_fillStretches_78 (rfl)
      · skip
        exact absurd (Int32.le_refl _) h7
    | succ n ih =>
      intro t bs ht hz
      have htm : t < mm := by omega
      refine xiload_3 C dX0_fillStretches_2 ?_
      refine xaload_1 C dX0_fillStretches_3 ?_
      refine xget C 3 f_X0_19 dX0_fillStretches_4 rfl rfl ?_
      refine xicmp_ge C (tgt := 66) dX0_fillStretches_7 (by decide) (fun h7 => ?_) (fun h7 => ?_)
      · skip
        exact absurd h7 (nI_ge htm (by omega))
      · skip
        refine xaload_1 C dX0_fillStretches_10 ?_
        refine xget C 3 f_X0_25 dX0_fillStretches_11 rfl rfl ?_
        refine xiload_3 C dX0_fillStretches_14 ?_
        refine xialdN C (t) 7 dX0_fillStretches_15 rfl (by omega) (rfl) (by decide) ?_
        refine xaload_2 C dX0_fillStretches_16 ?_
        refine xget C 8 f_X0_28 dX0_fillStretches_17 rfl rfl ?_
        refine xiconst C (-1) dX0_fillStretches_20 (by decide) ?_
        refine xixor C dX0_fillStretches_21 ?_
        refine xiand C dX0_fillStretches_22 ?_
        refine xistore_4 C dX0_fillStretches_23 rfl (by decide) ?_
        refine xiconst C (nI 0) dX0_fillStretches_25 (by decide) ?_
        refine xistore_5 C dX0_fillStretches_26 rfl (by decide) ?_
        refine loopK _ t htm ?_ 6 0 bs rfl rfl
        refine xiinc_3 C (nI (t + 1)) dX0_fillStretches_60 (nI_1 t) rfl (by decide) ?_
        refine xgoto C (tgt := 2) dX0_fillStretches_63 (by decide) ?_
        exact ih (t + 1) _ (by omega) hz
  refine xiconst C (nI 0) dX0_fillStretches_0 (by decide) ?_
  refine xistore_3 C dX0_fillStretches_1 rfl (by decide) ?_
  exact loopT mm 0 bs (by omega) hr
