set_option maxHeartbeats 4000000 in
set_option maxRecDepth 100000 in
theorem c_X0_bestPartner (l : Launch) (G : va_G) (tc : Nat → ClassId) (aB : Nat → Nat) (bs : Nat → Int64) (bc : Nat → Int32) (aM : Nat → Nat) (mp mb mo mc : Nat → Int32) (mm : Nat) (aK : Nat → Nat) (ko kc ki : Nat → Int32) (kr ku : Int32) (f t k h : Nat) (hft : f < t) (ht : t ≤ 48) (hk6 : k < 6) (hh : h ≤ 6) : kI l yX0_bestPartner (xw yX0_bestPartner cX0_bestPartner 9 (some .int)) 2 G tc [.ref (aB 0), .int (nI f), .int (nI t), .int (nI k), .int (nI h), .ref (aM 0), .ref (aK 0)] (wB tc aB bs bc ++ (wM tc aM mp mb mo mc mm ++ wK tc aK ko kc ki kr ku)) (oI (bp kr mc bs f t k h)) (wB tc aB bs bc ++ (wM tc aM mp mb mo mc mm ++ wK tc aK ko kc ki kr ku)) := by
  refine kI_of [some (.ref (aB 0)), some (.int (nI f)), some (.int (nI t)), some (.int (nI k)), some (.int (nI h)), some (.ref (aM 0)), some (.ref (aK 0)), none, none] 2 (by decide) (Nat.le_of_ble_eq_true rfl) rfl ?_
  intro p e s m args below meth c A C
  have loop : ∀ (n q : Nat), q + n = t → bpG kr mc bs f t k h n q = bp kr mc bs f t k h → xAT p l e (xR 2 0 0) s m args below meth c (xQi below args s G A (oI (bp kr mc bs f t k h)) (wB tc aB bs bc ++ (wM tc aM mp mb mo mc mm ++ wK tc aK ko kc ki kr ku))) G A 9 0 0 (wB tc aB bs bc ++ (wM tc aM mp mb mo mc mm ++ wK tc aK ko kc ki kr ku)) [some (.ref (aB 0)), some (.int (nI f)), some (.int (nI t)), some (.int (nI k)), some (.int (nI h)), some (.ref (aM 0)), some (.ref (aK 0)), some (.int (nI (fN bs f t h))), some (.int (nI q))] 15 [] := by
    intro n
    induction n with
    | zero =>
      intro q hq hz
      have hq : q = t := hq
      subst hq
      refine xiload_8 C dX0_bestPartner_15 ?_
      refine xiload_2 C dX0_bestPartner_17 ?_
      refine xicmp_ge C (tgt := 72) dX0_bestPartner_18 (by decide) (fun h18 => ?_) (fun h18 => ?_)
      · skip
        refine xiconst C (-1) dX0_bestPartner_72 (by decide) ?_
        exact xiret C dX0_bestPartner_73 (by rw [← hz]; rfl) (rfl)
      · skip
        exact absurd (Int32.le_refl _) h18
    | succ n ih =>
      intro q hq hz
      rw [bpG] at hz
      have hqt : q < t := by omega
      refine xiload_8 C dX0_bestPartner_15 ?_
      refine xiload_2 C dX0_bestPartner_17 ?_
      refine xicmp_ge C (tgt := 72) dX0_bestPartner_18 (by decide) (fun h18 => ?_) (fun h18 => ?_)
      · skip
        exact absurd h18 (nI_ge hqt (by omega))
      · skip
        refine xaload_5 C dX0_bestPartner_21 ?_
        refine xget C 3 f_X0_25 dX0_bestPartner_23 rfl rfl ?_
        refine xiload_8 C dX0_bestPartner_26 ?_
        refine xialdN C (q) 7 dX0_bestPartner_28 rfl (by omega) (rfl) (by decide) ?_
        refine xiload_3 C dX0_bestPartner_29 ?_
        refine xcallNi0 C m_X5_holdsKind C.E.2.1 (c_X5_holdsKind l G tc (mc q) (nI k)) dX0_bestPartner_30 ([] : List Nat) rfl rfl rfl (by decide) rfl (Nat.le_of_ble_eq_true rfl) ⟨by decide, by decide⟩ ?_
        refine xif_eq C (tgt := 66) dX0_bestPartner_33 (by decide) (fun h33 => ?_) (fun h33 => ?_)
        · skip
          have h33 := bI0 h33
          refine xiinc_8 C (nI (q + 1)) dX0_bestPartner_66 (nI_1 q) rfl (by decide) ?_
          refine xgoto C (tgt := 15) dX0_bestPartner_69 (by decide) ?_
          exact ih (q + 1) (by omega) (by rw [← hz, if_neg (by simp [h33])])
        · skip
          have h33 := bI1 h33
          refine xaload_0 C dX0_bestPartner_36 ?_
          refine xiload_1 C dX0_bestPartner_37 ?_
          refine xiload_8 C dX0_bestPartner_38 ?_
          refine xiload_3 C dX0_bestPartner_40 ?_
          refine xaload_6 C dX0_bestPartner_41 ?_
          refine xcallVi0 C m_X0_fewestInside k_X0_70 (c_X0_fewestInside l G tc aB bs bc aK ko kc ki kr ku f q k (by omega) (by omega) (by omega)) dX0_bestPartner_43 0 rfl [0, 1, 2, 8, 9, 10, 11] rfl rfl rfl (by decide) rfl (Nat.le_of_ble_eq_true rfl) ⟨by decide, by decide⟩ ?_
          refine xaload_0 C dX0_bestPartner_46 ?_
          refine xiload_8 C dX0_bestPartner_47 ?_
          refine xiconst C (1) dX0_bestPartner_49 (by decide) ?_
          refine xiadd C dX0_bestPartner_50 ?_
          rw [nI_1 q]
          refine xiload_2 C dX0_bestPartner_51 ?_
          refine xiload_4 C dX0_bestPartner_52 ?_
          refine xcallVi0 C m_X0_fewest k_X0_49 (c_X0_fewest l G tc aB bs bc (q + 1) t h (by omega) ht hh) dX0_bestPartner_54 0 rfl [0, 1, 2] rfl rfl rfl (by decide) rfl (Nat.le_of_ble_eq_true rfl) ⟨by decide, by decide⟩ ?_
          refine xiadd C dX0_bestPartner_57 ?_
          rw [nI_add]
          refine xiload_7 C dX0_bestPartner_58 ?_
          refine xicmp_ne C (tgt := 66) dX0_bestPartner_60 (by decide) (fun h60 => ?_) (fun h60 => ?_)
          · skip
            have h60 : ¬ fIn kr bs f q k + fN bs (q + 1) t h = fN bs f t h := fun h => h60 (by rw [h])
            refine xiinc_8 C (nI (q + 1)) dX0_bestPartner_66 (nI_1 q) rfl (by decide) ?_
            refine xgoto C (tgt := 15) dX0_bestPartner_69 (by decide) ?_
            exact ih (q + 1) (by omega) (by rw [← hz, if_neg (by simp [h60])])
          · skip
            have h60 : fIn kr bs f q k + fN bs (q + 1) t h = fN bs f t h := (nI_eq (by have := fIn_lt kr bs f q k; have := fN_lt bs (q + 1) t h; omega) (by have := fN_lt bs f t h; omega)).mp h60
            refine xiload_8 C dX0_bestPartner_63 ?_
            exact xiret C dX0_bestPartner_65 (by rw [← hz, if_pos (by simp [h33, h60])]; rfl) (rfl)
  refine xaload_0 C dX0_bestPartner_0 ?_
  refine xiload_1 C dX0_bestPartner_1 ?_
  refine xiload_2 C dX0_bestPartner_2 ?_
  refine xiload_4 C dX0_bestPartner_3 ?_
  refine xcallVi0 C m_X0_fewest k_X0_49 (c_X0_fewest l G tc aB bs bc f t h (by omega) ht hh) dX0_bestPartner_5 0 rfl [0, 1, 2] rfl rfl rfl (by decide) rfl (Nat.le_of_ble_eq_true rfl) ⟨by decide, by decide⟩ ?_
  refine xistore_7 C dX0_bestPartner_8 rfl (by decide) ?_
  refine xiload_1 C dX0_bestPartner_10 ?_
  refine xiconst C (1) dX0_bestPartner_11 (by decide) ?_
  refine xiadd C dX0_bestPartner_12 ?_
  rw [nI_1 f]
  refine xistore_8 C dX0_bestPartner_13 rfl (by decide) ?_
  exact loop (t - (f + 1)) (f + 1) (by omega) rfl
set_option maxHeartbeats 4000000 in
set_option maxRecDepth 100000 in
theorem c_X0_beginAt (l : Launch) (G : va_G) (tc : Nat → ClassId) (aB : Nat → Nat) (bs : Nat → Int64) (bc : Nat → Int32) (aM : Nat → Nat) (mp mb mo mc : Nat → Int32) (mm : Nat) (aK : Nat → Nat) (ko kc ki : Nat → Int32) (kr ku : Int32) (aI : Nat → Nat) (ik ia ie it ip id io : Nat → Int32) (im iq il : Nat) (ir : Bool) (f t h : Nat) (hft : f < t) (ht : t ≤ 48) (hh : h ≤ 6) (him : im < 48) (hiq : iq < 48) (hio : opOk io iq im) (hok : okd ik io iq 0 = nI h) (od : Int32) (hod : mo f &&& alw ki kr ku (nI h) = od) (r : Option (Nat × Nat)) (hr : baG kr mc bs f t h od 6 0 = r) : kV l yX0_beginAt (xw yX0_beginAt cX0_beginAt 10 none) 3 G tc [.ref (aB 0), .int (nI f), .int (nI t), .ref (aM 0), .ref (aK 0), .ref (aI 0)] (wB tc aB bs bc ++ (wM tc aM mp mb mo mc mm ++ (wK tc aK ko kc ki kr ku ++ wI tc aI ik ia ie it ip id io im iq il ir))) (wB tc aB bs (baR (mp f) r bc (ik, ia, ie, it, ip, id, io, im, iq, il, ir)).1 ++ (wM tc aM mp mb mo mc mm ++ (wK tc aK ko kc ki kr ku ++ wIs tc aI (baR (mp f) r bc (ik, ia, ie, it, ip, id, io, im, iq, il, ir)).2))) := by
  refine kV_of [some (.ref (aB 0)), some (.int (nI f)), some (.int (nI t)), some (.ref (aM 0)), some (.ref (aK 0)), some (.ref (aI 0)), none, none, none, none] 4 (by decide) (Nat.le_of_ble_eq_true rfl) rfl ?_
  intro p e s m args below meth c A C
  have loop : ∀ (n k : Nat), k + n = 6 → baG kr mc bs f t h od n k = r → xAT p l e (xR 3 0 0) s m args below meth c (xQv below args s G A (wB tc aB bs (baR (mp f) r bc (ik, ia, ie, it, ip, id, io, im, iq, il, ir)).1 ++ (wM tc aM mp mb mo mc mm ++ (wK tc aK ko kc ki kr ku ++ wIs tc aI (baR (mp f) r bc (ik, ia, ie, it, ip, id, io, im, iq, il, ir)).2)))) G A 10 0 0 (wB tc aB bs bc ++ (wM tc aM mp mb mo mc mm ++ (wK tc aK ko kc ki kr ku ++ wI tc aI ik ia ie it ip id io im iq il ir))) [some (.ref (aB 0)), some (.int (nI f)), some (.int (nI t)), some (.ref (aM 0)), some (.ref (aK 0)), some (.ref (aI 0)), some (.int (nI h)), some (.int od), some (.int (nI k)), none] 26 [] := by
    intro n
    induction n with
    | zero =>
      intro k hk6 hz
      have hk6 : k = 6 := hk6
      subst hk6
      have hz : none = r := hz
      subst hz
      refine xiload_8 C dX0_beginAt_26 ?_
      refine xbipush C (6) dX0_beginAt_28 (by decide) ?_
      refine xicmp_ge C (tgt := 110) dX0_beginAt_30 (by decide) (fun h30 => ?_) (fun h30 => ?_)
      · skip
        exact xvret C dX0_beginAt_110 (rfl)
      · skip
        exact absurd (Int32.le_refl _) h30
    | succ n ih =>
      intro k hk6 hz
      rw [baG] at hz
      have hkl : k < 6 := by omega
      refine xiload_8 C dX0_beginAt_26 ?_
      refine xbipush C (6) dX0_beginAt_28 (by decide) ?_
      refine xicmp_ge C (tgt := 110) dX0_beginAt_30 (by decide) (fun h30 => ?_) (fun h30 => ?_)
      · skip
        exact absurd h30 (nI_ge hkl (by decide))
      · skip
        refine xiload_7 C dX0_beginAt_33 ?_
        refine xiload_8 C dX0_beginAt_35 ?_
        refine xcallNi0 C m_X5_holdsKind C.E.2.1 (c_X5_holdsKind l G tc od (nI k)) dX0_beginAt_37 ([] : List Nat) rfl rfl rfl (by decide) rfl (Nat.le_of_ble_eq_true rfl) ⟨by decide, by decide⟩ ?_
        refine xif_eq C (tgt := 59) dX0_beginAt_40 (by decide) (fun h40 => ?_) (fun h40 => ?_)
        · skip
          have h40 := bI0 h40
          refine xiconst C (-1) dX0_beginAt_59 (by decide) ?_
          rw [if_neg (by rw [h40]; exact Bool.false_ne_true)] at hz
          have hz : baG kr mc bs f t h od n (k + 1) = r := hz
          refine xistore_9 C dX0_beginAt_60 rfl (by decide) ?_
          refine xiload_9 C dX0_beginAt_62 ?_
          refine xiconst C (-1) dX0_beginAt_64 (by decide) ?_
          refine xicmp_eq C (tgt := 104) dX0_beginAt_65 (by decide) (fun h65 => ?_) (fun h65 => ?_)
          · skip
            refine xiinc_8 C (nI (k + 1)) dX0_beginAt_104 (nI_1 k) rfl (by decide) ?_
            refine xgoto C (tgt := 26) dX0_beginAt_107 (by decide) ?_
            refine xfg_9 ?_
            exact ih (k + 1) (by omega) hz
          · skip
            exact absurd rfl h65
        · skip
          have h40 := bI1 h40
          refine xaload_0 C dX0_beginAt_43 ?_
          refine xiload_1 C dX0_beginAt_44 ?_
          refine xiload_2 C dX0_beginAt_45 ?_
          refine xiload_8 C dX0_beginAt_46 ?_
          refine xiload_6 C dX0_beginAt_48 ?_
          refine xaload_3 C dX0_beginAt_50 ?_
          refine xaload_4 C dX0_beginAt_51 ?_
          refine xcallVi0 C m_X0_bestPartner k_X0_99 (c_X0_bestPartner l G tc aB bs bc aM mp mb mo mc mm aK ko kc ki kr ku f t k h hft ht hkl hh) dX0_beginAt_53 0 rfl [0, 1, 2, 3, 4, 5, 6, 7, 8, 9, 10, 11] rfl rfl rfl (by decide) rfl (Nat.le_of_ble_eq_true rfl) ⟨by decide, by decide⟩ ?_
          refine xgoto C (tgt := 60) dX0_beginAt_56 (by decide) ?_
          rw [if_pos h40] at hz
          cases hb : bp kr mc bs f t k h with
          | none =>
            rw [hb] at hz
            have hz : baG kr mc bs f t h od n (k + 1) = r := hz
            refine xistore_9 C dX0_beginAt_60 rfl (by decide) ?_
            refine xiload_9 C dX0_beginAt_62 ?_
            refine xiconst C (-1) dX0_beginAt_64 (by decide) ?_
            refine xicmp_eq C (tgt := 104) dX0_beginAt_65 (by decide) (fun h65 => ?_) (fun h65 => ?_)
            · skip
              refine xiinc_8 C (nI (k + 1)) dX0_beginAt_104 (nI_1 k) rfl (by decide) ?_
              refine xgoto C (tgt := 26) dX0_beginAt_107 (by decide) ?_
              refine xfg_9 ?_
              exact ih (k + 1) (by omega) hz
            · skip
              exact absurd rfl h65
          | some z =>
            rw [hb] at hz
            have hz : some (k, z) = r := hz
            refine xistore_9 C dX0_beginAt_60 rfl (by decide) ?_
            refine xiload_9 C dX0_beginAt_62 ?_
            refine xiconst C (-1) dX0_beginAt_64 (by decide) ?_
            refine xicmp_eq C (tgt := 104) dX0_beginAt_65 (by decide) (fun h65 => ?_) (fun h65 => ?_)
            · skip
              exact absurd h65 (nI_m1 (by have := bp_lt hb; omega))
            · skip
              refine xaload_5 C dX0_beginAt_68 ?_
              refine xget C 12 f_X0_102 dX0_beginAt_70 rfl rfl ?_
              refine xbipush C (48) dX0_beginAt_73 (by decide) ?_
              refine xicmp_ge C (tgt := 104) dX0_beginAt_75 (by decide) (fun h75 => ?_) (fun h75 => ?_)
              · skip
                exact absurd h75 (nI_ge him (by decide))
              · skip
                refine xaload_0 C dX0_beginAt_78 ?_
                refine xget C 0 f_X0_15 dX0_beginAt_79 rfl rfl ?_
                refine xaload_5 C dX0_beginAt_82 ?_
                refine xget C 12 f_X0_102 dX0_beginAt_84 rfl rfl ?_
                refine xiload_9 C dX0_beginAt_87 ?_
                refine xiastN C (im) 2 (wB tc aB bs (upd bc im (nI z)) ++ (wM tc aM mp mb mo mc mm ++ (wK tc aK ko kc ki kr ku ++ wI tc aI ik ia ie it ip id io im iq il ir))) dX0_beginAt_89 rfl (him) (rfl) (by decide) rfl ?_
                refine xaload_5 C dX0_beginAt_90 ?_
                refine xiload_8 C dX0_beginAt_92 ?_
                refine xaload_3 C dX0_beginAt_94 ?_
                refine xget C 3 f_X0_103 dX0_beginAt_95 rfl rfl ?_
                refine xiload_1 C dX0_beginAt_98 ?_
                refine xialdN C (f) 4 dX0_beginAt_99 rfl (by omega) (rfl) (by decide) ?_
                refine xcallVv C m_X1_begin k_X0_106 (c_X1_begin l G tc aI ik ia ie it ip id io im iq il ir him hiq (nI k) (mp f)) dX0_beginAt_100 12 rfl [12, 13, 14, 15, 16, 17, 18, 19] (wB tc aB bs (upd bc im (nI z)) ++ (wM tc aM mp mb mo mc mm ++ (wK tc aK ko kc ki kr ku ++ wIs tc aI (bgI (nI k) (mp f) (ik, ia, ie, it, ip, id, io, im, iq, il, ir))))) rfl rfl rfl rfl rfl (by decide) rfl (Nat.le_of_ble_eq_true rfl) ⟨by decide, by decide⟩ ?_
                exact xvret C dX0_beginAt_103 (by rw [← hz]; rfl)
  refine xaload_5 C dX0_beginAt_0 ?_
  refine xcallVi0 C m_X1_innermostKind k_X0_95 (c_X1_innermostKind l G tc aI ik ia ie it ip id io im iq il ir (by omega) (by omega) hio) dX0_beginAt_2 12 rfl [12, 13, 14, 15, 16, 17, 18, 19] rfl rfl rfl (by decide) rfl (Nat.le_of_ble_eq_true rfl) ⟨by decide, by decide⟩ ?_
  rw [hok]
  refine xistore_6 C dX0_beginAt_5 rfl (by decide) ?_
  refine xaload_3 C dX0_beginAt_7 ?_
  refine xget C 3 f_X0_53 dX0_beginAt_8 rfl rfl ?_
  refine xiload_1 C dX0_beginAt_11 ?_
  refine xialdN C (f) 6 dX0_beginAt_12 rfl (by omega) (rfl) (by decide) ?_
  refine xaload_4 C dX0_beginAt_13 ?_
  refine xiload_6 C dX0_beginAt_15 ?_
  refine xcallVi0 C m_X2_allowedIn k_X0_41 (c_X2_allowedIn l G tc aK ko kc ki kr ku (nI h)) dX0_beginAt_17 8 rfl [8, 9, 10, 11] rfl rfl rfl (by decide) rfl (Nat.le_of_ble_eq_true rfl) ⟨by decide, by decide⟩ ?_
  refine xiand C dX0_beginAt_20 ?_
  rw [hod]
  refine xistore_7 C dX0_beginAt_21 rfl (by decide) ?_
  refine xiconst C (nI 0) dX0_beginAt_23 (by decide) ?_
  refine xistore_8 C dX0_beginAt_24 rfl (by decide) ?_
  exact loop 6 0 rfl hr
set_option maxHeartbeats 4000000 in
set_option maxRecDepth 100000 in
theorem c_X0_chooseIslands (l : Launch) (G : va_G) (tc : Nat → ClassId) (aB : Nat → Nat) (bs : Nat → Int64) (bc : Nat → Int32) (aM : Nat → Nat) (mp mb mo mc : Nat → Int32) (mm : Nat) (aK : Nat → Nat) (ko kc ki : Nat → Int32) (kr ku : Int32) (aI : Nat → Nat) (ik ia ie it ip id io : Nat → Int32) (im iq il : Nat) (ir : Bool) (hm : mm ≤ 48) (r : (Nat → Int32) × IS) (hr : csG ki kr ku mp mb mo mc mm bs mm 0 (bc, (ik, ia, ie, it, ip, id, io, 0, 0, 0, true)) = r) : kV l yX0_chooseIslands (xw yX0_chooseIslands cX0_chooseIslands 7 none) 4 G tc [.ref (aB 0), .ref (aM 0), .ref (aK 0), .ref (aI 0)] (wB tc aB bs bc ++ (wM tc aM mp mb mo mc mm ++ (wK tc aK ko kc ki kr ku ++ wI tc aI ik ia ie it ip id io im iq il ir))) (wB tc aB bs r.1 ++ (wM tc aM mp mb mo mc mm ++ (wK tc aK ko kc ki kr ku ++ wIs tc aI (iK r.2, iA r.2, iE r.2, iT r.2, iP r.2, iD r.2, iO r.2, iM r.2, iQ r.2, fN bs 0 mm 6, iR r.2)))) := by
  refine kV_of [some (.ref (aB 0)), some (.ref (aM 0)), some (.ref (aK 0)), some (.ref (aI 0)), none, none, none] 3 (by decide) (Nat.le_of_ble_eq_true rfl) rfl ?_
  intro p e s m args below meth c A C
  have loop : ∀ (n j : Nat) (bc ik ia ie it ip id io : Nat → Int32) (im iq il : Nat) (ir : Bool), j + n = mm → csOk mm j (bc, (ik, ia, ie, it, ip, id, io, im, iq, il, ir)) → csG ki kr ku mp mb mo mc mm bs n j (bc, (ik, ia, ie, it, ip, id, io, im, iq, il, ir)) = r → xAT p l e (xR 4 0 0) s m args below meth c (xQv below args s G A (wB tc aB bs r.1 ++ (wM tc aM mp mb mo mc mm ++ (wK tc aK ko kc ki kr ku ++ wIs tc aI (iK r.2, iA r.2, iE r.2, iT r.2, iP r.2, iD r.2, iO r.2, iM r.2, iQ r.2, fN bs 0 mm 6, iR r.2))))) G A 7 0 0 (wB tc aB bs bc ++ (wM tc aM mp mb mo mc mm ++ (wK tc aK ko kc ki kr ku ++ wI tc aI ik ia ie it ip id io im iq il ir))) [some (.ref (aB 0)), some (.ref (aM 0)), some (.ref (aK 0)), some (.ref (aI 0)), some (.int (nI j)), none, none] 7 [] := by
    intro n
    induction n with
    | zero =>
      intro j bc ik ia ie it ip id io im iq il ir hj hok hz
      have hj : j = mm := hj
      subst hj
      have hz : (bc, (ik, ia, ie, it, ip, id, io, im, iq, il, ir)) = r := hz
      subst hz
      refine xiload_4 C dX0_chooseIslands_7 ?_
      refine xaload_1 C dX0_chooseIslands_9 ?_
      refine xget C 3 f_X0_19 dX0_chooseIslands_10 rfl rfl ?_
      refine xicmp_ge C (tgt := 84) dX0_chooseIslands_13 (by decide) (fun h13 => ?_) (fun h13 => ?_)
      · skip
        refine xaload_3 C dX0_chooseIslands_84 ?_
        refine xaload_0 C dX0_chooseIslands_85 ?_
        refine xiconst C (nI 0) dX0_chooseIslands_86 (by decide) ?_
        refine xaload_1 C dX0_chooseIslands_87 ?_
        refine xget C 3 f_X0_19 dX0_chooseIslands_88 rfl rfl ?_
        refine xbipush C (nI 6) dX0_chooseIslands_91 (by decide) ?_
        refine xcallVi0 C m_X0_fewest k_X0_49 (c_X0_fewest l G tc aB bs bc 0 j 6 (by decide) hm (by decide)) dX0_chooseIslands_93 0 rfl [0, 1, 2] rfl rfl rfl (by decide) rfl (Nat.le_of_ble_eq_true rfl) ⟨by decide, by decide⟩ ?_
        refine xput C 12 (wB tc aB bs bc ++ (wM tc aM mp mb mo mc j ++ (wK tc aK ko kc ki kr ku ++ wIs tc aI (ik, ia, ie, it, ip, id, io, im, iq, fN bs 0 j 6, ir)))) fw_X0_92 dX0_chooseIslands_96 rfl (Nat.le_of_ble_eq_true rfl) rfl rfl rfl ?_
        exact xvret C dX0_chooseIslands_99 (rfl)
      · skip
        exact absurd (Int32.le_refl _) h13
    | succ n ih =>
      intro j bc ik ia ie it ip id io im iq il ir hj hok hz
      rw [csG] at hz
      have hjm : j < mm := by omega
      have hst := csOk_step (ki := ki) (kr := kr) (ku := ku) (mp := mp) (mb := mb) (mo := mo) (mc := mc) (bs := bs) hok hm hjm
      have hT := csOk_T hok hm
      have hH := csOk_H hok
      have hok2 := hok
      obtain ⟨k1, k2, k3, -, -⟩ := hok2
      simp only [iM, iQ, iO, iK] at k1 k2 k3 hT hH
      generalize hte : csT mm bc (ik, ia, ie, it, ip, id, io, im, iq, il, ir) = t at hT
      generalize hhe : csH (ik, ia, ie, it, ip, id, io, im, iq, il, ir) = h at hH
      refine xiload_4 C dX0_chooseIslands_7 ?_
      refine xaload_1 C dX0_chooseIslands_9 ?_
      refine xget C 3 f_X0_19 dX0_chooseIslands_10 rfl rfl ?_
      refine xicmp_ge C (tgt := 84) dX0_chooseIslands_13 (by decide) (fun h13 => ?_) (fun h13 => ?_)
      · skip
        exact absurd h13 (nI_ge hjm (by omega))
      · skip
        refine xaload_3 C dX0_chooseIslands_16 ?_
        refine xiconst C (nI 0) dX0_chooseIslands_17 (by decide) ?_
        refine xcallVi0 C m_X1_openIsland k_X0_78 (c_X1_openIsland l G tc aI ik ia ie it ip id io im iq il ir (by omega) 0 (by decide)) dX0_chooseIslands_18 12 rfl [12, 13, 14, 15, 16, 17, 18, 19] rfl rfl rfl (by decide) rfl (Nat.le_of_ble_eq_true rfl) ⟨by decide, by decide⟩ ?_
        rcases Nat.eq_zero_or_pos iq with hq | hq
        · subst hq
          have htm : t = mm := by rw [← hte]; rfl
          rw [show opI io 0 0 = -1 from rfl]
          refine xistore_5 C dX0_chooseIslands_21 rfl (by decide) ?_
          refine xiload_5 C dX0_chooseIslands_23 ?_
          refine xiconst C (-1) dX0_chooseIslands_25 (by decide) ?_
          refine xicmp_ne C (tgt := 36) dX0_chooseIslands_26 (by decide) (fun h26 => ?_) (fun h26 => ?_)
          · skip
            exact absurd rfl h26
          · skip
            refine xaload_1 C dX0_chooseIslands_29 ?_
            refine xget C 3 f_X0_19 dX0_chooseIslands_30 rfl rfl ?_
            refine xgoto C (tgt := 43) dX0_chooseIslands_33 (by decide) ?_
            refine xtop (w := .int (nI t)) (by rw [htm]) ?_
            refine xistore_6 C dX0_chooseIslands_43 rfl (by decide) ?_
            refine xiload_4 C dX0_chooseIslands_45 ?_
            refine xiload_6 C dX0_chooseIslands_47 ?_
            refine xicmp_ne C (tgt := 67) dX0_chooseIslands_49 (by decide) (fun h49 => ?_) (fun h49 => ?_)
            · skip
              have hcs : csS ki kr ku mp mb mo mc mm bs j (bc, (ik, ia, ie, it, ip, id, io, im, 0, il, ir)) = baR (mp j) (baG kr mc bs j t h (mo j &&& alw ki kr ku (nI h)) 6 0) bc (ik, ia, ie, it, ip, id, io, im, 0, il, ir) := by
                rw [csS, if_neg (by rw [hte]; omega), hte, hhe]
              rw [hcs] at hst hz
              obtain ⟨r9, hr9⟩ : ∃ r9, baG kr mc bs j t h (mo j &&& alw ki kr ku (nI h)) 6 0 = r9 := ⟨_, rfl⟩
              rw [hr9] at hst hz
              refine xaload_0 C dX0_chooseIslands_67 ?_
              refine xiload_4 C dX0_chooseIslands_68 ?_
              refine xiload_6 C dX0_chooseIslands_70 ?_
              refine xaload_1 C dX0_chooseIslands_72 ?_
              refine xaload_2 C dX0_chooseIslands_73 ?_
              refine xaload_3 C dX0_chooseIslands_74 ?_
              refine xcallVvA C m_X0_beginAt k_X0_88 (c_X0_beginAt l G tc aB bs bc aM mp mb mo mc mm aK ko kc ki kr ku aI ik ia ie it ip id io im 0 il ir j t h (by omega) (by omega) hH.1 (by omega) (by omega) k3 hH.2.1 _ rfl r9 hr9) dX0_chooseIslands_75 0 rfl rfl rfl (by decide) rfl (Nat.le_of_ble_eq_true rfl) ⟨by decide, by decide⟩ ?_
              generalize baR (mp j) r9 bc (ik, ia, ie, it, ip, id, io, im, 0, il, ir) = X at hst hz ⊢
              obtain ⟨bc2, ik2, ia2, ie2, it2, ip2, id2, io2, im2, iq2, il2, ir2⟩ := X
              refine xws (w' := wB tc aB bs bc2 ++ (wM tc aM mp mb mo mc mm ++ (wK tc aK ko kc ki kr ku ++ wI tc aI ik2 ia2 ie2 it2 ip2 id2 io2 im2 iq2 il2 ir2))) rfl ?_
              refine xiinc_4 C (nI (j + 1)) dX0_chooseIslands_78 (nI_1 j) rfl (by decide) ?_
              refine xgoto C (tgt := 7) dX0_chooseIslands_81 (by decide) ?_
              refine xfg_5 ?_
              refine xfg_6 ?_
              exact ih (j + 1) bc2 ik2 ia2 ie2 it2 ip2 id2 io2 im2 iq2 il2 ir2 (by omega) hst hz
            · skip
              exact absurd ((nI_eq (by omega) (by omega)).mp h49) (by omega)
        · obtain ⟨iq, rfl⟩ : ∃ z, iq = z + 1 := ⟨iq - 1, by omega⟩
          obtain ⟨u, hu1, hu⟩ := k3 iq (by omega)
          obtain ⟨hT1, hT2, hT3⟩ := hT.2 (by omega)
          rw [Nat.add_sub_cancel] at hT3
          rw [show opI io (iq + 1) 0 = io iq from rfl]
          refine xistore_5 C dX0_chooseIslands_21 rfl (by decide) ?_
          refine xiload_5 C dX0_chooseIslands_23 ?_
          refine xiconst C (-1) dX0_chooseIslands_25 (by decide) ?_
          refine xicmp_ne C (tgt := 36) dX0_chooseIslands_26 (by decide) (fun h26 => ?_) (fun h26 => ?_)
          · skip
            refine xaload_0 C dX0_chooseIslands_36 ?_
            refine xget C 0 f_X0_15 dX0_chooseIslands_37 rfl rfl ?_
            refine xiload_5 C dX0_chooseIslands_40 ?_
            refine xialdN C (u) 2 dX0_chooseIslands_42 rfl (by omega) (hu) (by decide) ?_
            rw [show bc u = nI t by rw [← hT3, show (io iq).toNatClampNeg = u by rw [hu]; exact nI_clamp (by omega)]]
            refine xistore_6 C dX0_chooseIslands_43 rfl (by decide) ?_
            refine xiload_4 C dX0_chooseIslands_45 ?_
            refine xiload_6 C dX0_chooseIslands_47 ?_
            refine xicmp_ne C (tgt := 67) dX0_chooseIslands_49 (by decide) (fun h49 => ?_) (fun h49 => ?_)
            · skip
              have h49 : ¬ j = t := fun h => h49 (by rw [h])
              have hcs : csS ki kr ku mp mb mo mc mm bs j (bc, (ik, ia, ie, it, ip, id, io, im, iq + 1, il, ir)) = baR (mp j) (baG kr mc bs j t h (mo j &&& alw ki kr ku (nI h)) 6 0) bc (ik, ia, ie, it, ip, id, io, im, iq + 1, il, ir) := by
                rw [csS, if_neg (by rw [hte]; exact h49), hte, hhe]
              rw [hcs] at hst hz
              obtain ⟨r9, hr9⟩ : ∃ r9, baG kr mc bs j t h (mo j &&& alw ki kr ku (nI h)) 6 0 = r9 := ⟨_, rfl⟩
              rw [hr9] at hst hz
              refine xaload_0 C dX0_chooseIslands_67 ?_
              refine xiload_4 C dX0_chooseIslands_68 ?_
              refine xiload_6 C dX0_chooseIslands_70 ?_
              refine xaload_1 C dX0_chooseIslands_72 ?_
              refine xaload_2 C dX0_chooseIslands_73 ?_
              refine xaload_3 C dX0_chooseIslands_74 ?_
              refine xcallVvA C m_X0_beginAt k_X0_88 (c_X0_beginAt l G tc aB bs bc aM mp mb mo mc mm aK ko kc ki kr ku aI ik ia ie it ip id io im (iq + 1) il ir j t h (by omega) (by omega) hH.1 (by omega) (by omega) k3 hH.2.1 _ rfl r9 hr9) dX0_chooseIslands_75 0 rfl rfl rfl (by decide) rfl (Nat.le_of_ble_eq_true rfl) ⟨by decide, by decide⟩ ?_
              generalize baR (mp j) r9 bc (ik, ia, ie, it, ip, id, io, im, iq + 1, il, ir) = X at hst hz ⊢
              obtain ⟨bc2, ik2, ia2, ie2, it2, ip2, id2, io2, im2, iq2, il2, ir2⟩ := X
              refine xws (w' := wB tc aB bs bc2 ++ (wM tc aM mp mb mo mc mm ++ (wK tc aK ko kc ki kr ku ++ wI tc aI ik2 ia2 ie2 it2 ip2 id2 io2 im2 iq2 il2 ir2))) rfl ?_
              refine xiinc_4 C (nI (j + 1)) dX0_chooseIslands_78 (nI_1 j) rfl (by decide) ?_
              refine xgoto C (tgt := 7) dX0_chooseIslands_81 (by decide) ?_
              refine xfg_5 ?_
              refine xfg_6 ?_
              exact ih (j + 1) bc2 ik2 ia2 ie2 it2 ip2 id2 io2 im2 iq2 il2 ir2 (by omega) hst hz
            · skip
              have h49 : j = t := (nI_eq (by omega) (by omega)).mp h49
              have hcs : csS ki kr ku mp mb mo mc mm bs j (bc, ik, ia, ie, it, ip, id, io, im, iq + 1, il, ir) = (bc, fnI (mb j) 0 (ik, ia, ie, it, ip, id, io, im, iq + 1, il, ir)) := by rw [csS, if_pos (by rw [hte]; exact h49)]
              have hfn : fnI (mb j) 0 (ik, ia, ie, it, ip, id, io, im, iq + 1, il, ir) = (ik, ia, upd ie u (mb j), upd it u (nI 0), ip, id, io, im, iq, il, ir) := by
                have hu2 : (io iq).toNatClampNeg = u := by rw [hu]; exact nI_clamp (by omega)
                show (ik, ia, upd ie (io iq).toNatClampNeg (mb j), upd it (io iq).toNatClampNeg (nI 0), ip, id, io, im, iq, il, ir) = _
                rw [hu2]
              rw [hcs, hfn] at hst hz
              refine xaload_3 C dX0_chooseIslands_52 ?_
              refine xaload_1 C dX0_chooseIslands_53 ?_
              refine xget C 3 f_X0_81 dX0_chooseIslands_54 rfl rfl ?_
              refine xiload_4 C dX0_chooseIslands_57 ?_
              refine xialdN C (j) 5 dX0_chooseIslands_59 rfl (by omega) (rfl) (by decide) ?_
              refine xiconst C (nI 0) dX0_chooseIslands_60 (by decide) ?_
              refine xcallVv C m_X1_finish k_X0_84 (c_X1_finish l G tc aI ik ia ie it ip id io im iq il ir (by omega) u (by omega) hu (mb j) (nI 0)) dX0_chooseIslands_61 12 rfl [12, 13, 14, 15, 16, 17, 18, 19] (wB tc aB bs bc ++ (wM tc aM mp mb mo mc mm ++ (wK tc aK ko kc ki kr ku ++ wI tc aI ik ia (upd ie u (mb j)) (upd it u (nI 0)) ip id io im iq il ir))) rfl rfl rfl rfl rfl (by decide) rfl (Nat.le_of_ble_eq_true rfl) ⟨by decide, by decide⟩ ?_
              refine xgoto C (tgt := 78) dX0_chooseIslands_64 (by decide) ?_
              refine xiinc_4 C (nI (j + 1)) dX0_chooseIslands_78 (nI_1 j) rfl (by decide) ?_
              refine xgoto C (tgt := 7) dX0_chooseIslands_81 (by decide) ?_
              refine xfg_5 ?_
              refine xfg_6 ?_
              exact ih (j + 1) bc ik ia (upd ie u (mb j)) (upd it u (nI 0)) ip id io im iq il ir (by omega) hst hz
          · skip
            exact absurd (hu.symm.trans h26) (nI_m1 (by omega))
  refine xaload_3 C dX0_chooseIslands_0 ?_
  refine xcallVv C m_X1_startReading k_X0_73 (c_X1_startReading l G tc aI ik ia ie it ip id io im iq il ir) dX0_chooseIslands_1 12 rfl [12, 13, 14, 15, 16, 17, 18, 19] (wB tc aB bs bc ++ (wM tc aM mp mb mo mc mm ++ (wK tc aK ko kc ki kr ku ++ wI tc aI ik ia ie it ip id io 0 0 0 true))) rfl rfl rfl rfl rfl (by decide) rfl (Nat.le_of_ble_eq_true rfl) ⟨by decide, by decide⟩ ?_
  refine xiconst C (nI 0) dX0_chooseIslands_4 (by decide) ?_
  refine xistore_4 C dX0_chooseIslands_5 rfl (by decide) ?_
  exact loop mm 0 bc ik ia ie it ip id io 0 0 0 true (by omega) ⟨Nat.le_refl _, Nat.le_refl _, fun r hr => absurd hr (Nat.not_lt_zero r), fun r hr => absurd hr (Nat.not_lt_zero r), fun _ => 0, fun r hr => absurd hr (Nat.not_lt_zero r), fun r hr => absurd hr (Nat.not_lt_zero _)⟩ hr
