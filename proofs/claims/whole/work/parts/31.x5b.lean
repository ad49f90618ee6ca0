set_option maxHeartbeats 4000000 in
set_option maxRecDepth 100000 in
theorem c_X5_withKind (l : Launch) (G : va_G) (tc : Nat → ClassId) (q x : Int32) (v : Bool) : kI l yX5_withKind (xw yX5_withKind cX5_withKind 3 (some .int)) 0 G tc [.int q, .int x, .int (bI v)] ([]) (wKd q x v) ([]) := by
  refine kI_of [some (.int q), some (.int x), some (.int (bI v))] 0 (by decide) (Nat.le_of_ble_eq_true rfl) rfl ?_
  intro p e s m args below meth c A C
  refine xiload_2 C dX5_withKind_0 ?_
  refine xif_eq C (tgt := 12) dX5_withKind_1 (by decide) (fun h1 => ?_) (fun h1 => ?_)
  · skip
    have h1 := bI0 h1
    refine xiload_0 C dX5_withKind_12 ?_
    refine xiconst C (1) dX5_withKind_13 (by decide) ?_
    refine xiload_1 C dX5_withKind_14 ?_
    refine xishl C dX5_withKind_15 ?_
    refine xiconst C (-1) dX5_withKind_16 (by decide) ?_
    refine xixor C dX5_withKind_17 ?_
    refine xiand C dX5_withKind_18 ?_
    exact xiret C dX5_withKind_19 (by rw [wKd, if_neg (by rw [h1]; exact Bool.false_ne_true)]) (rfl)
  · skip
    have h1 := bI1 h1
    refine xiload_0 C dX5_withKind_4 ?_
    refine xiconst C (1) dX5_withKind_5 (by decide) ?_
    refine xiload_1 C dX5_withKind_6 ?_
    refine xishl C dX5_withKind_7 ?_
    refine xior C dX5_withKind_8 ?_
    refine xgoto C (tgt := 19) dX5_withKind_9 (by decide) ?_
    exact xiret C dX5_withKind_19 (by rw [wKd, if_pos h1]) (rfl)
set_option maxHeartbeats 4000000 in
set_option maxRecDepth 100000 in
theorem c_X5_mixed (l : Launch) (G : va_G) (tc : Nat → ClassId) (z : Int64) (x : Int32) : kL l yX5_mixed (xw yX5_mixed cX5_mixed 3 (some .long)) 0 G tc [.long z, .int x] ([]) (mixd z x) ([]) := by
  refine kL_of [some (.long z), none, some (.int x)] 0 (by decide) (Nat.le_of_ble_eq_true rfl) rfl ?_
  intro p e s m args below meth c A C
  refine xlload_0 C dX5_mixed_0 ?_
  refine xldc2 C dX5_mixed_1 cl_X5_212 ?_
  refine xlmul C dX5_mixed_4 ?_
  refine xiload_2 C dX5_mixed_5 ?_
  refine xi2l C dX5_mixed_6 ?_
  refine xladd C dX5_mixed_7 ?_
  exact xlret C dX5_mixed_8 (rfl) (rfl)
set_option maxHeartbeats 4000000 in
set_option maxRecDepth 100000 in
theorem c_X5_setKind (l : Launch) (hl9 : l.stackTraces = false) (G : va_G) (tc : Nat → ClassId) (a0 : Nat) (aT aK aI aM aB : Nat → Nat) (lt : Bool) (ko kc ki : Nat → Int32) (kr ku : Int32) (i : IS) (x : Int32) (v1 v2 : Bool) (y : Int32) : tI l yX5_setKind (xw yX5_setKind cX5_setKind 6 (some .int)) 1 G tc [.ref a0, .int x, .int (bI v1), .int (bI v2), .int y] (wO a0 aT aK aI aM aB lt ++ (wK tc aK (ko) (kc) (ki) (kr) (ku) ++ wIs tc aI (i))) 2 (thS x y) (ki x.toNatClampNeg) (wO a0 aT aK aI aM aB lt ++ (wK tc aK (ko) (kc) (upd ki x.toNatClampNeg y) (wKd kr x v1) (wKd ku x v2) ++ wIs tc aI (fgI i))) := by
  refine tI_of [some (.ref a0), some (.int x), some (.int (bI v1)), some (.int (bI v2)), some (.int y), none] 1 (by decide) (Nat.le_of_ble_eq_true rfl) rfl ?_
  intro p e s m args below meth c A C hT
  refine xaload_0 C dX5_setKind_0 ?_
  refine xiload_1 C dX5_setKind_1 ?_
  refine xprop C hT m_X5_needKind k_X5_91 (c_X5_needKind l hl9 G tc a0 aT aK aI aM aB lt x) dX5_setKind_2 0 rfl [0] (wO a0 aT aK aI aM aB lt ++ (wK tc aK (ko) (kc) (ki) (kr) (ku) ++ wIs tc aI (i))) rfl rfl rfl rfl rfl (by decide) rfl (Nat.le_of_ble_eq_true rfl) ⟨by decide, by decide⟩ (by decide) (by decide) (fun E hE => by rw [thS, hE]; rfl) rfl ?_
  intro hn2
  refine xiload_4 C dX5_setKind_5 ?_
  refine xif_lt C (tgt := 17) dX5_setKind_7 (by decide) (fun h7 => ?_) (fun h7 => ?_)
  · skip
    exact xthrow C hl9 hT th_IA (List.mem_of_getElem? (i := 9) rfl) dX5_setKind_17 dX5_setKind_20 dX5_setKind_21 dX5_setKind_23 dX5_setKind_26 (Nat.le_of_ble_eq_true rfl) ⟨by decide, by decide⟩ (by decide) (by decide) (by rw [thS, hn2]; simp [*]) (rfl)
  · skip
    refine xiload_4 C dX5_setKind_10 ?_
    refine xbipush C (63) dX5_setKind_12 (by decide) ?_
    refine xicmp_le C (tgt := 27) dX5_setKind_14 (by decide) (fun h14 => ?_) (fun h14 => ?_)
    · skip
      refine xaload_0 C dX5_setKind_27 ?_
      refine xget C 0 f_X5_19 dX5_setKind_28 rfl rfl ?_
      refine xget C 1 f_X5_109 dX5_setKind_31 rfl rfl ?_
      refine xiload_1 C dX5_setKind_34 ?_
      refine xiald C 4 dX5_setKind_35 rfl (thK_n hn2) ?_
      refine xistore_5 C dX5_setKind_36 rfl (by decide) ?_
      refine xaload_0 C dX5_setKind_38 ?_
      refine xget C 0 f_X5_19 dX5_setKind_39 rfl rfl ?_
      refine xget C 1 f_X5_109 dX5_setKind_42 rfl rfl ?_
      refine xiload_1 C dX5_setKind_45 ?_
      refine xiload_4 C dX5_setKind_46 ?_
      refine xiast C 4 (wO a0 aT aK aI aM aB lt ++ (wK tc aK (ko) (kc) (upd ki x.toNatClampNeg y) (kr) (ku) ++ wIs tc aI (i))) dX5_setKind_48 rfl (thK_n hn2) rfl ?_
      refine xaload_0 C dX5_setKind_49 ?_
      refine xget C 0 f_X5_19 dX5_setKind_50 rfl rfl ?_
      refine xaload_0 C dX5_setKind_53 ?_
      refine xget C 0 f_X5_19 dX5_setKind_54 rfl rfl ?_
      refine xget C 1 f_X5_112 dX5_setKind_57 rfl rfl ?_
      refine xiload_1 C dX5_setKind_60 ?_
      refine xiload_2 C dX5_setKind_61 ?_
      refine xcallSi0 C m_X5_withKind k_X5_115 (c_X5_withKind l G tc kr x v1) dX5_setKind_62 ([] : List Nat) rfl rfl rfl (by decide) rfl (Nat.le_of_ble_eq_true rfl) ⟨by decide, by decide⟩ ?_
      refine xput C 1 (wO a0 aT aK aI aM aB lt ++ (wK tc aK (ko) (kc) (upd ki x.toNatClampNeg y) (wKd kr x v1) (ku) ++ wIs tc aI (i))) fw_X5_112 dX5_setKind_65 rfl (Nat.le_of_ble_eq_true rfl) rfl rfl rfl ?_
      refine xaload_0 C dX5_setKind_68 ?_
      refine xget C 0 f_X5_19 dX5_setKind_69 rfl rfl ?_
      refine xaload_0 C dX5_setKind_72 ?_
      refine xget C 0 f_X5_19 dX5_setKind_73 rfl rfl ?_
      refine xget C 1 f_X5_119 dX5_setKind_76 rfl rfl ?_
      refine xiload_1 C dX5_setKind_79 ?_
      refine xiload_3 C dX5_setKind_80 ?_
      refine xcallSi0 C m_X5_withKind k_X5_115 (c_X5_withKind l G tc ku x v2) dX5_setKind_81 ([] : List Nat) rfl rfl rfl (by decide) rfl (Nat.le_of_ble_eq_true rfl) ⟨by decide, by decide⟩ ?_
      refine xput C 1 (wO a0 aT aK aI aM aB lt ++ (wK tc aK (ko) (kc) (upd ki x.toNatClampNeg y) (wKd kr x v1) (wKd ku x v2) ++ wIs tc aI (i))) fw_X5_119 dX5_setKind_84 rfl (Nat.le_of_ble_eq_true rfl) rfl rfl rfl ?_
      refine xaload_0 C dX5_setKind_87 ?_
      refine xget C 0 f_X5_26 dX5_setKind_88 rfl rfl ?_
      refine xcallVv C m_X1_forget k_X5_72 (c_fgt l G tc aI i) dX5_setKind_91 5 rfl [5, 6, 7, 8, 9, 10, 11, 12] (wO a0 aT aK aI aM aB lt ++ (wK tc aK (ko) (kc) (upd ki x.toNatClampNeg y) (wKd kr x v1) (wKd ku x v2) ++ wIs tc aI (fgI i))) rfl rfl rfl rfl rfl (by decide) rfl (Nat.le_of_ble_eq_true rfl) ⟨by decide, by decide⟩ ?_
      refine xiload_5 C dX5_setKind_94 ?_
      exact xtiret C dX5_setKind_96 (by decide) (by decide) (rfl) (by rw [thS, hn2]; simp [*]) (rfl)
    · skip
      exact xthrow C hl9 hT th_IA (List.mem_of_getElem? (i := 9) rfl) dX5_setKind_17 dX5_setKind_20 dX5_setKind_21 dX5_setKind_23 dX5_setKind_26 (Nat.le_of_ble_eq_true rfl) ⟨by decide, by decide⟩ (by decide) (by decide) (by rw [thS, hn2]; simp [*]) (rfl)
set_option maxHeartbeats 4000000 in
set_option maxRecDepth 100000 in
theorem c_X5_setWord (l : Launch) (hl9 : l.stackTraces = false) (G : va_G) (tc : Nat → ClassId) (a0 : Nat) (aT aK aI aM aB : Nat → Nat) (lt : Bool) (ko kc ki : Nat → Int32) (kr ku : Int32) (i : IS) (x : Int32) (v : Bool) (y z : Int32) : tI l yX5_setWord (xw yX5_setWord cX5_setWord 8 (some .boolean)) 1 G tc [.ref a0, .int x, .int (bI v), .int y, .int z] (wO a0 aT aK aI aM aB lt ++ (wK tc aK (ko) (kc) (ki) (kr) (ku) ++ wIs tc aI (i))) 2 (thW x y z) (bI (cpl (if v = true then ko else upd ko x.toNatClampNeg (swV y z)) (if v = true then upd kc x.toNatClampNeg (swV y z) else kc) x)) (wO a0 aT aK aI aM aB lt ++ (wK tc aK (if v = true then ko else upd ko x.toNatClampNeg (swV y z)) (if v = true then upd kc x.toNatClampNeg (swV y z) else kc) (ki) (kr) (ku) ++ wIs tc aI (fgI i))) := by
  refine tI_of [some (.ref a0), some (.int x), some (.int (bI v)), some (.int y), some (.int z), none, none, none] 3 (by decide) (Nat.le_of_ble_eq_true rfl) rfl ?_
  intro p e s m args below meth c A C hT
  refine xaload_0 C dX5_setWord_0 ?_
  refine xiload_1 C dX5_setWord_1 ?_
  refine xprop C hT m_X5_needKind k_X5_91 (c_X5_needKind l hl9 G tc a0 aT aK aI aM aB lt x) dX5_setWord_2 0 rfl [0] (wO a0 aT aK aI aM aB lt ++ (wK tc aK (ko) (kc) (ki) (kr) (ku) ++ wIs tc aI (i))) rfl rfl rfl rfl rfl (by decide) rfl (Nat.le_of_ble_eq_true rfl) ⟨by decide, by decide⟩ (by decide) (by decide) (fun E hE => by rw [thW, hE]; rfl) rfl ?_
  intro hn2
  refine xiload_4 C dX5_setWord_5 ?_
  refine xif_lt C (tgt := 16) dX5_setWord_7 (by decide) (fun h7 => ?_) (fun h7 => ?_)
  · skip
    exact xthrow C hl9 hT th_IA (List.mem_of_getElem? (i := 7) rfl) dX5_setWord_16 dX5_setWord_19 dX5_setWord_20 dX5_setWord_22 dX5_setWord_25 (Nat.le_of_ble_eq_true rfl) ⟨by decide, by decide⟩ (by decide) (by decide) (by rw [thW, hn2, swR, if_pos (by simp [*])]; rfl) (rfl)
  · skip
    refine xiload_4 C dX5_setWord_10 ?_
    refine xiconst C (3) dX5_setWord_12 (by decide) ?_
    refine xicmp_le C (tgt := 26) dX5_setWord_13 (by decide) (fun h13 => ?_) (fun h13 => ?_)
    · skip
      obtain ⟨q, hq9, hq⟩ : ∃ q : Nat, q ≤ 3 ∧ z = nI q := nI_of2 (M := 3) (n := 3) (by decide) h7 h13
      have hsr0 : swR y z = swG y q 0 := by rw [swR, if_neg (by simp [h7, h13]), hq, nI_clamp (by omega)]
      have loop : ∀ (k : Nat) (w : Int32), k ≤ 3 → swG y k w = swR y z → xAT p l e (xR 1 2 (6 * 2)) s m args below meth c (xTi below args s G A (wO a0 aT aK aI aM aB lt ++ (wK tc aK (ko) (kc) (ki) (kr) (ku) ++ wIs tc aI (i))) 2 (thW x y z) (bI (cpl (if v = true then ko else upd ko x.toNatClampNeg (swV y z)) (if v = true then upd kc x.toNatClampNeg (swV y z) else kc) x)) (wO a0 aT aK aI aM aB lt ++ (wK tc aK (if v = true then ko else upd ko x.toNatClampNeg (swV y z)) (if v = true then upd kc x.toNatClampNeg (swV y z) else kc) (ki) (kr) (ku) ++ wIs tc aI (fgI i)))) G A 8 1 6 (wO a0 aT aK aI aM aB lt ++ (wK tc aK (ko) (kc) (ki) (kr) (ku) ++ wIs tc aI (i))) [some (.ref a0), some (.int x), some (.int (bI v)), some (.int y), some (.int z), some (.int w), some (.int (nI (8 * k) - 8)), none] 38 [] := by
        intro k
        induction k with
        | zero =>
          intro w hk hz
          have hsr : swR y z = some w := hz.symm
          have hsv : swV y z = w := by rw [swV, hsr]; rfl
          refine xiload_6 C dX5_setWord_38 ?_
          refine xif_lt C (tgt := 87) dX5_setWord_40 (by decide) (fun h40 => ?_) (fun h40 => ?_)
          · skip
            refine xiload_2 C dX5_setWord_87 ?_
            refine xif_eq C (tgt := 105) dX5_setWord_88 (by decide) (fun h88 => ?_) (fun h88 => ?_)
            · skip
              have h88 := bI0 h88
              refine xaload_0 C dX5_setWord_105 ?_
              refine xget C 0 f_X5_19 dX5_setWord_106 rfl rfl ?_
              refine xget C 1 f_X5_101 dX5_setWord_109 rfl rfl ?_
              refine xiload_1 C dX5_setWord_112 ?_
              refine xiload_5 C dX5_setWord_113 ?_
              refine xiast C 2 (wO a0 aT aK aI aM aB lt ++ (wK tc aK (upd ko x.toNatClampNeg w) (kc) (ki) (kr) (ku) ++ wIs tc aI (i))) dX5_setWord_115 rfl (thK_n hn2) rfl ?_
              refine xaload_0 C dX5_setWord_116 ?_
              refine xget C 0 f_X5_26 dX5_setWord_117 rfl rfl ?_
              refine xcallVv C m_X1_forget k_X5_72 (c_fgt l G tc aI i) dX5_setWord_120 5 rfl [5, 6, 7, 8, 9, 10, 11, 12] (wO a0 aT aK aI aM aB lt ++ (wK tc aK (upd ko x.toNatClampNeg w) (kc) (ki) (kr) (ku) ++ wIs tc aI (fgI i))) rfl rfl rfl rfl rfl (by decide) rfl (Nat.le_of_ble_eq_true rfl) ⟨by decide, by decide⟩ ?_
              refine xaload_0 C dX5_setWord_123 ?_
              refine xget C 0 f_X5_19 dX5_setWord_124 rfl rfl ?_
              refine xiload_1 C dX5_setWord_127 ?_
              refine xcallVi0 C m_X2_isComplete k_X5_104 (c_X2_isComplete l G tc aK (upd ko x.toNatClampNeg w) kc ki kr ku x) dX5_setWord_128 1 rfl [1, 2, 3, 4] rfl rfl rfl (by decide) rfl (Nat.le_of_ble_eq_true rfl) ⟨by decide, by decide⟩ ?_
              exact xtzret C dX5_setWord_131 (by decide) (by decide) (by first | rfl | exact bI_nar _) (by rw [hsv, if_neg (by rw [h88]; exact Bool.false_ne_true), if_neg (by rw [h88]; exact Bool.false_ne_true)]) (by rw [thW, hn2, hsr]; rfl) (by rw [hsv, if_neg (by rw [h88]; exact Bool.false_ne_true), if_neg (by rw [h88]; exact Bool.false_ne_true)])
            · skip
              have h88 := bI1 h88
              refine xaload_0 C dX5_setWord_91 ?_
              refine xget C 0 f_X5_19 dX5_setWord_92 rfl rfl ?_
              refine xget C 1 f_X5_98 dX5_setWord_95 rfl rfl ?_
              refine xiload_1 C dX5_setWord_98 ?_
              refine xiload_5 C dX5_setWord_99 ?_
              refine xiast C 3 (wO a0 aT aK aI aM aB lt ++ (wK tc aK (ko) (upd kc x.toNatClampNeg w) (ki) (kr) (ku) ++ wIs tc aI (i))) dX5_setWord_101 rfl (thK_n hn2) rfl ?_
              refine xgoto C (tgt := 116) dX5_setWord_102 (by decide) ?_
              refine xaload_0 C dX5_setWord_116 ?_
              refine xget C 0 f_X5_26 dX5_setWord_117 rfl rfl ?_
              refine xcallVv C m_X1_forget k_X5_72 (c_fgt l G tc aI i) dX5_setWord_120 5 rfl [5, 6, 7, 8, 9, 10, 11, 12] (wO a0 aT aK aI aM aB lt ++ (wK tc aK (ko) (upd kc x.toNatClampNeg w) (ki) (kr) (ku) ++ wIs tc aI (fgI i))) rfl rfl rfl rfl rfl (by decide) rfl (Nat.le_of_ble_eq_true rfl) ⟨by decide, by decide⟩ ?_
              refine xaload_0 C dX5_setWord_123 ?_
              refine xget C 0 f_X5_19 dX5_setWord_124 rfl rfl ?_
              refine xiload_1 C dX5_setWord_127 ?_
              refine xcallVi0 C m_X2_isComplete k_X5_104 (c_X2_isComplete l G tc aK ko (upd kc x.toNatClampNeg w) ki kr ku x) dX5_setWord_128 1 rfl [1, 2, 3, 4] rfl rfl rfl (by decide) rfl (Nat.le_of_ble_eq_true rfl) ⟨by decide, by decide⟩ ?_
              exact xtzret C dX5_setWord_131 (by decide) (by decide) (by first | rfl | exact bI_nar _) (by rw [hsv, if_pos h88, if_pos h88]) (by rw [thW, hn2, hsr]; rfl) (by rw [hsv, if_pos h88, if_pos h88])
          · skip
            exact absurd (by decide) h40
        | succ k ih =>
          intro w hk hz
          rw [swG] at hz
          rw [sh8 k]
          refine xiload_6 C dX5_setWord_38 ?_
          refine xif_lt C (tgt := 87) dX5_setWord_40 (by decide) (fun h40 => ?_) (fun h40 => ?_)
          · skip
            exact absurd h40 (nI_pos (by omega))
          · skip
            refine xiload_3 C dX5_setWord_43 ?_
            refine xiload_6 C dX5_setWord_44 ?_
            refine xiushr C dX5_setWord_46 ?_
            refine xsipush C (255) dX5_setWord_47 (by decide) ?_
            refine xiand C dX5_setWord_50 ?_
            refine xtop (w := .int (wbt y k)) rfl ?_
            refine xistore_7 C dX5_setWord_51 rfl (by decide) ?_
            refine xiload_7 C dX5_setWord_53 ?_
            refine xcallSi0 C m_X5_isTextByte k_X5_48 (c_X5_isTextByte l G tc (wbt y k)) dX5_setWord_55 ([] : List Nat) rfl rfl rfl (by decide) rfl (Nat.le_of_ble_eq_true rfl) ⟨by decide, by decide⟩ ?_
            refine xif_ne C (tgt := 71) dX5_setWord_58 (by decide) (fun h58 => ?_) (fun h58 => ?_)
            · skip
              have h58 := bI1 h58
              refine xiload_5 C dX5_setWord_71 ?_
              refine xbipush C (8) dX5_setWord_73 (by decide) ?_
              refine xishl C dX5_setWord_75 ?_
              refine xiload_7 C dX5_setWord_76 ?_
              refine xior C dX5_setWord_78 ?_
              refine xistore_5 C dX5_setWord_79 rfl (by decide) ?_
              refine xiinc_6 C (nI (8 * k) - 8) dX5_setWord_81 (by rw [Int32.sub_eq_add_neg]; rfl) rfl (by decide) ?_
              refine xgoto C (tgt := 38) dX5_setWord_84 (by decide) ?_
              refine xfg_7 ?_
              exact ih _ (by omega) (by rw [← hz, if_pos h58])
            · skip
              have h58 := bI0 h58
              have hsr : swR y z = none := by rw [← hz, if_neg (by rw [h58]; exact Bool.false_ne_true)]
              exact xthrow C hl9 hT th_IA (List.mem_of_getElem? (i := 8) rfl) dX5_setWord_61 dX5_setWord_64 dX5_setWord_65 dX5_setWord_67 dX5_setWord_70 (Nat.le_of_ble_eq_true rfl) ⟨by decide, by decide⟩ (by decide) (by decide) (by rw [thW, hn2, hsr]; rfl) (rfl)
      refine xiconst C (0) dX5_setWord_26 (by decide) ?_
      refine xistore_5 C dX5_setWord_27 rfl (by decide) ?_
      refine xbipush C (8) dX5_setWord_29 (by decide) ?_
      refine xiload_4 C dX5_setWord_31 ?_
      refine xiconst C (1) dX5_setWord_33 (by decide) ?_
      refine xisub C dX5_setWord_34 ?_
      refine ximul C dX5_setWord_35 ?_
      refine xtop (w := .int (nI (8 * q) - 8)) (congrArg Value.int (by rw [hq, ← pk_mul, show (nI 8) = 8 from rfl]; exact sw_mul _)) ?_
      refine xistore_6 C dX5_setWord_36 rfl (by decide) ?_
      exact loop q 0 (by omega) hsr0.symm
    · skip
      exact xthrow C hl9 hT th_IA (List.mem_of_getElem? (i := 7) rfl) dX5_setWord_16 dX5_setWord_19 dX5_setWord_20 dX5_setWord_22 dX5_setWord_25 (Nat.le_of_ble_eq_true rfl) ⟨by decide, by decide⟩ (by decide) (by decide) (by rw [thW, hn2, swR, if_pos (by simp [*])]; rfl) (rfl)
set_option maxHeartbeats 4000000 in
set_option maxRecDepth 100000 in
theorem c_X5_feed (l : Launch) (hl9 : l.stackTraces = false) (G : va_G) (tc : Nat → ClassId) (a0 : Nat) (aT aK aI aM aB : Nat → Nat) (lt : Bool) (b : Nat → Int32) (n : Nat) (ec : Int32) (i : IS) (hn : n ≤ 48) (x : Int64) : tI l yX5_feed (xw yX5_feed cX5_feed 6 (some .int)) 1 G tc [.ref a0, .long x] (wO a0 aT aK aI aM aB lt ++ (wT tc aT (b) (n) ec ++ wIs tc aI (i))) 1 (thF x n) (nI (fdA x 8 b n).2) (wO a0 aT aK aI aM aB lt ++ (wT tc aT ((fdA x 8 b n).1) ((fdA x 8 b n).2) ec ++ wIs tc aI (fgI i))) := by
  refine tI_of [some (.ref a0), some (.long x), none, none, none, none] 3 (by decide) (Nat.le_of_ble_eq_true rfl) rfl ?_
  intro p e s m args below meth c A C hT
  have loop2 : ∀ (z9 : Int32), thF x n = none → ∀ (k : Nat) (b2 : Nat → Int32) (n2 : Nat), k ≤ 8 → n2 + nz x k ≤ 48 → fdA x k b2 n2 = fdA x 8 b n → xAT p l e (xR 1 1 (6 * 1)) s m args below meth c (xTi below args s G A (wO a0 aT aK aI aM aB lt ++ (wT tc aT (b) (n) ec ++ wIs tc aI (i))) 1 (thF x n) (nI (fdA x 8 b n).2) (wO a0 aT aK aI aM aB lt ++ (wT tc aT ((fdA x 8 b n).1) ((fdA x 8 b n).2) ec ++ wIs tc aI (fgI i)))) G A 6 0 0 (wO a0 aT aK aI aM aB lt ++ (wT tc aT (b2) (n2) ec ++ wIs tc aI (i))) [some (.ref a0), some (.long x), none, some (.int z9), some (.int (nI (8 * k) - 8)), none] 92 [] := by
    intro z9 hth k
    induction k with
    | zero =>
      intro b2 n2 hk hn2 hz
      have hz : (b2, n2) = fdA x 8 b n := hz
      refine xiload_4 C dX5_feed_92 ?_
      refine xif_lt C (tgt := 128) dX5_feed_94 (by decide) (fun h94 => ?_) (fun h94 => ?_)
      · skip
        refine xaload_0 C dX5_feed_128 ?_
        refine xget C 0 f_X5_26 dX5_feed_129 rfl rfl ?_
        refine xcallVv C m_X1_forget k_X5_72 (c_fgt l G tc aI i) dX5_feed_132 3 rfl [3, 4, 5, 6, 7, 8, 9, 10] (wO a0 aT aK aI aM aB lt ++ (wT tc aT (b2) (n2) ec ++ wIs tc aI (fgI i))) rfl rfl rfl rfl rfl (by decide) rfl (Nat.le_of_ble_eq_true rfl) ⟨by decide, by decide⟩ ?_
        refine xaload_0 C dX5_feed_135 ?_
        refine xget C 0 f_X5_10 dX5_feed_136 rfl rfl ?_
        refine xget C 1 f_X5_59 dX5_feed_139 rfl rfl ?_
        exact xtiret C dX5_feed_142 (by decide) (by decide) (by rw [← hz]) (hth) (by rw [← hz])
      · skip
        exact absurd (by decide) h94
    | succ k ih =>
      intro b2 n2 hk hn2 hz
      rw [fdA] at hz
      rw [nz] at hn2
      rw [sh8 k]
      refine xiload_4 C dX5_feed_92 ?_
      refine xif_lt C (tgt := 128) dX5_feed_94 (by decide) (fun h94 => ?_) (fun h94 => ?_)
      · skip
        exact absurd h94 (nI_pos (by omega))
      · skip
        refine xlload_1 C dX5_feed_97 ?_
        refine xiload_4 C dX5_feed_98 ?_
        refine xlushr C dX5_feed_100 ?_
        refine xl2i C dX5_feed_101 ?_
        refine xsipush C (255) dX5_feed_102 (by decide) ?_
        refine xiand C dX5_feed_105 ?_
        refine xtop (w := .int (fb x k)) rfl ?_
        refine xistore_5 C dX5_feed_106 rfl (by decide) ?_
        refine xiload_5 C dX5_feed_108 ?_
        refine xif_eq C (tgt := 122) dX5_feed_110 (by decide) (fun h110 => ?_) (fun h110 => ?_)
        · skip
          rw [if_pos h110] at hz hn2
          refine xiinc_4 C (nI (8 * k) - 8) dX5_feed_122 (by rw [Int32.sub_eq_add_neg]; rfl) rfl (by decide) ?_
          refine xgoto C (tgt := 92) dX5_feed_125 (by decide) ?_
          refine xfg_5 ?_
          exact ih _ _ (by omega) (by omega) hz
        · skip
          rw [if_neg h110] at hz hn2
          refine xaload_0 C dX5_feed_113 ?_
          refine xget C 0 f_X5_10 dX5_feed_114 rfl rfl ?_
          refine xiload_5 C dX5_feed_117 ?_
          refine xcallVv C m_X4_append k_X5_68 (c_X4_append l G tc aT b2 n2 ec (by omega) (fb x k)) dX5_feed_119 1 rfl [1, 2] (wO a0 aT aK aI aM aB lt ++ (wT tc aT (upd b2 n2 (fb x k)) (n2 + 1) ec ++ wIs tc aI (i))) rfl rfl rfl rfl rfl (by decide) rfl (Nat.le_of_ble_eq_true rfl) ⟨by decide, by decide⟩ ?_
          refine xiinc_4 C (nI (8 * k) - 8) dX5_feed_122 (by rw [Int32.sub_eq_add_neg]; rfl) rfl (by decide) ?_
          refine xgoto C (tgt := 92) dX5_feed_125 (by decide) ?_
          refine xfg_5 ?_
          exact ih _ _ (by omega) (by omega) hz
  have loop1 : ∀ (k z : Nat), k ≤ 8 → z + k ≤ 8 → fdC x k z = fdC x 8 0 → xAT p l e (xR 1 1 (6 * 1)) s m args below meth c (xTi below args s G A (wO a0 aT aK aI aM aB lt ++ (wT tc aT (b) (n) ec ++ wIs tc aI (i))) 1 (thF x n) (nI (fdA x 8 b n).2) (wO a0 aT aK aI aM aB lt ++ (wT tc aT ((fdA x 8 b n).1) ((fdA x 8 b n).2) ec ++ wIs tc aI (fgI i)))) G A 6 0 0 (wO a0 aT aK aI aM aB lt ++ (wT tc aT (b) (n) ec ++ wIs tc aI (i))) [some (.ref a0), some (.long x), none, some (.int (nI z)), some (.int (nI (8 * k) - 8)), none] 6 [] := by
    intro k
    induction k with
    | zero =>
      intro z hk hzk hz
      have hz : some z = fdC x 8 0 := hz
      have hzn := fdC_nz hz.symm
      refine xiload_4 C dX5_feed_6 ?_
      refine xif_lt C (tgt := 64) dX5_feed_8 (by decide) (fun h8 => ?_) (fun h8 => ?_)
      · skip
        refine xiload_3 C dX5_feed_64 ?_
        refine xbipush C (nI 48) dX5_feed_65 (by decide) ?_
        refine xaload_0 C dX5_feed_67 ?_
        refine xget C 0 f_X5_10 dX5_feed_68 rfl rfl ?_
        refine xget C 1 f_X5_59 dX5_feed_71 rfl rfl ?_
        refine xisub C dX5_feed_74 ?_
        rw [pk_sub hn]
        refine xicmp_le C (tgt := 88) dX5_feed_75 (by decide) (fun h75 => ?_) (fun h75 => ?_)
        · skip
          have h75 : z ≤ 48 - n := (nI_leI (by omega) (by omega)).mp h75
          have hth : thF x n = none := by rw [thF, ← hz]; exact if_pos h75
          refine xbipush C (56) dX5_feed_88 (by decide) ?_
          refine xistore_4 C dX5_feed_90 rfl (by decide) ?_
          exact loop2 (nI z) hth 8 b n (Nat.le_refl _) (by omega) rfl
        · skip
          have h75 : ¬ z ≤ 48 - n := fun h => h75 ((nI_leI (by omega) (by omega)).mpr h)
          exact xthrow C hl9 hT th_IS (List.mem_of_getElem? (i := 1) rfl) dX5_feed_78 dX5_feed_81 dX5_feed_82 dX5_feed_84 dX5_feed_87 (Nat.le_of_ble_eq_true rfl) ⟨by decide, by decide⟩ (by decide) (by decide) (by rw [thF, ← hz]; exact if_neg h75) (rfl)
      · skip
        exact absurd (by decide) h8
    | succ k ih =>
      intro z hk hzk hz
      rw [fdC] at hz
      rw [sh8 k]
      refine xiload_4 C dX5_feed_6 ?_
      refine xif_lt C (tgt := 64) dX5_feed_8 (by decide) (fun h8 => ?_) (fun h8 => ?_)
      · skip
        exact absurd h8 (nI_pos (by omega))
      · skip
        refine xlload_1 C dX5_feed_11 ?_
        refine xiload_4 C dX5_feed_12 ?_
        refine xlushr C dX5_feed_14 ?_
        refine xl2i C dX5_feed_15 ?_
        refine xsipush C (255) dX5_feed_16 (by decide) ?_
        refine xiand C dX5_feed_19 ?_
        refine xtop (w := .int (fb x k)) rfl ?_
        refine xistore_5 C dX5_feed_20 rfl (by decide) ?_
        refine xiload_5 C dX5_feed_22 ?_
        refine xif_eq C (tgt := 45) dX5_feed_24 (by decide) (fun h24 => ?_) (fun h24 => ?_)
        · skip
          refine xiload_3 C dX5_feed_45 ?_
          refine xiload_5 C dX5_feed_46 ?_
          refine xif_eq C (tgt := 55) dX5_feed_48 (by decide) (fun h48 => ?_) (fun h48 => ?_)
          · skip
            refine xiconst C (0) dX5_feed_55 (by decide) ?_
            refine xiadd C dX5_feed_56 ?_
            refine xtop (w := .int (nI z)) (congrArg Value.int (i32_a0 _)) ?_
            refine xistore_3 C dX5_feed_57 rfl (by decide) ?_
            refine xiinc_4 C (nI (8 * k) - 8) dX5_feed_58 (by rw [Int32.sub_eq_add_neg]; rfl) rfl (by decide) ?_
            refine xgoto C (tgt := 6) dX5_feed_61 (by decide) ?_
            refine xfg_5 ?_
            exact ih z (by omega) (by omega) (by rw [← hz, if_neg (by simp [h24]), if_pos h24])
          · skip
            exact absurd h24 h48
        · skip
          refine xiload_5 C dX5_feed_27 ?_
          refine xcallSi0 C m_X5_isTextByte k_X5_48 (c_X5_isTextByte l G tc (fb x k)) dX5_feed_29 ([] : List Nat) rfl rfl rfl (by decide) rfl (Nat.le_of_ble_eq_true rfl) ⟨by decide, by decide⟩ ?_
          refine xif_ne C (tgt := 45) dX5_feed_32 (by decide) (fun h32 => ?_) (fun h32 => ?_)
          · skip
            have h32 := bI1 h32
            refine xiload_3 C dX5_feed_45 ?_
            refine xiload_5 C dX5_feed_46 ?_
            refine xif_eq C (tgt := 55) dX5_feed_48 (by decide) (fun h48 => ?_) (fun h48 => ?_)
            · skip
              exact absurd h48 h24
            · skip
              refine xiconst C (1) dX5_feed_51 (by decide) ?_
              refine xgoto C (tgt := 56) dX5_feed_52 (by decide) ?_
              refine xiadd C dX5_feed_56 ?_
              refine xtop (w := .int (nI (z + 1))) (congrArg Value.int (nI_1 z)) ?_
              refine xistore_3 C dX5_feed_57 rfl (by decide) ?_
              refine xiinc_4 C (nI (8 * k) - 8) dX5_feed_58 (by rw [Int32.sub_eq_add_neg]; rfl) rfl (by decide) ?_
              refine xgoto C (tgt := 6) dX5_feed_61 (by decide) ?_
              refine xfg_5 ?_
              exact ih (z + 1) (by omega) (by omega) (by rw [← hz, if_neg (by simp [h32]), if_neg h24])
          · skip
            have h32 := bI0 h32
            exact xthrow C hl9 hT th_IA (List.mem_of_getElem? (i := 0) rfl) dX5_feed_35 dX5_feed_38 dX5_feed_39 dX5_feed_41 dX5_feed_44 (Nat.le_of_ble_eq_true rfl) ⟨by decide, by decide⟩ (by decide) (by decide) (by rw [thF, ← hz, if_pos (by simp [h24, h32])]) (rfl)
  refine xiconst C (nI 0) dX5_feed_0 (by decide) ?_
  refine xistore_3 C dX5_feed_1 rfl (by decide) ?_
  refine xbipush C (nI (8 * 8) - 8) dX5_feed_2 (by decide) ?_
  refine xistore_4 C dX5_feed_4 rfl (by decide) ?_
  exact loop1 8 0 (Nat.le_refl _) (by decide) rfl
set_option maxHeartbeats 4000000 in
set_option maxRecDepth 100000 in
theorem c_X5_markCount (l : Launch) (G : va_G) (tc : Nat → ClassId) (a0 : Nat) (aT aK aI aM aB : Nat → Nat) (lt : Bool) (b : Nat → Int32) (n : Nat) (ec : Int32) (ko kc ki : Nat → Int32) (kr ku : Int32) (mp mb mo mc : Nat → Int32) (mm : Nat) (hn : n ≤ 48) (r : MS) (hr : fmG b n ec ko kc n 0 0 (mp, mb, mo, mc, 0) = r) : kI l yX5_markCount (xw yX5_markCount cX5_markCount 1 (some .int)) 5 G tc [.ref a0] (wO a0 aT aK aI aM aB lt ++ (wT tc aT b n ec ++ (wK tc aK ko kc ki kr ku ++ wM tc aM mp mb mo mc mm))) (nI r.2.2.2.2) (wO a0 aT aK aI aM aB lt ++ (wT tc aT b n ec ++ (wK tc aK ko kc ki kr ku ++ wMs tc aM r))) := by
  refine kI_of [some (.ref a0)] 0 (by decide) (Nat.le_of_ble_eq_true rfl) rfl ?_
  intro p e s m args below meth c A C
  refine xaload_0 C dX5_markCount_0 ?_
  refine xget C 0 f_X5_33 dX5_markCount_1 rfl rfl ?_
  refine xaload_0 C dX5_markCount_4 ?_
  refine xget C 0 f_X5_10 dX5_markCount_5 rfl rfl ?_
  refine xaload_0 C dX5_markCount_8 ?_
  refine xget C 0 f_X5_19 dX5_markCount_9 rfl rfl ?_
  refine xcallVv C m_X3_find k_X5_140 (c_X3_find l G tc aM mp mb mo mc mm aT aK b n ec ko kc ki kr ku hn r hr) dX5_markCount_12 7 rfl [7, 8, 9, 10, 11, 1, 2, 3, 4, 5, 6] (wO a0 aT aK aI aM aB lt ++ (wT tc aT b n ec ++ (wK tc aK ko kc ki kr ku ++ wMs tc aM r))) rfl rfl rfl rfl rfl (by decide) rfl (Nat.le_of_ble_eq_true rfl) ⟨by decide, by decide⟩ ?_
  refine xaload_0 C dX5_markCount_15 ?_
  refine xget C 0 f_X5_33 dX5_markCount_16 rfl rfl ?_
  refine xget C 7 f_X5_158 dX5_markCount_19 rfl rfl ?_
  exact xiret C dX5_markCount_22 (by first | rfl | (simp [*]; done)) (rfl)
set_option maxHeartbeats 4000000 in
set_option maxRecDepth 100000 in
theorem c_X5_withIslands (l : Launch) (G : va_G) (tc : Nat → ClassId) (a0 : Nat) (aT aK aI aM aB : Nat → Nat) (lt : Bool) (i : IS) (hm : iM i ≤ 48) (x : Int64) : kL l yX5_withIslands (xw yX5_withIslands cX5_withIslands 6 (some .long)) 1 G tc [.ref a0, .long x] (wO a0 aT aK aI aM aB lt ++ wIs tc aI (i)) (dgW i x) (wO a0 aT aK aI aM aB lt ++ wIs tc aI (i)) := by
  refine kL_of [some (.ref a0), some (.long x), none, none, none, none] 3 (by decide) (Nat.le_of_ble_eq_true rfl) rfl ?_
  intro p e s m args below meth c A C
  have loop : ∀ (f k : Nat) (z : Int64), k + f = iM i → mixd (dgI (iK i) (iA i) (iE i) (iT i) f k z) (nI (iL i)) = dgW i x → xAT p l e (xR 1 0 0) s m args below meth c (xQl below args s G A (dgW i x) (wO a0 aT aK aI aM aB lt ++ wIs tc aI (i))) G A 6 0 0 (wO a0 aT aK aI aM aB lt ++ wIs tc aI (i)) [some (.ref a0), some (.long x), none, some (.long z), none, some (.int (nI k))] 15 [] := by
    intro f
    induction f with
    | zero =>
      intro k z hk hz
      have hk : k = iM i := hk
      refine xiload_5 C dX5_withIslands_15 ?_
      refine xaload_0 C dX5_withIslands_17 ?_
      refine xget C 0 f_X5_26 dX5_withIslands_18 rfl rfl ?_
      refine xget C 1 f_X5_139 dX5_withIslands_21 rfl rfl ?_
      refine xicmp_ge C (tgt := 93) dX5_withIslands_24 (by decide) (fun h24 => ?_) (fun h24 => ?_)
      · skip
        refine xlload_3 C dX5_withIslands_93 ?_
        refine xaload_0 C dX5_withIslands_94 ?_
        refine xget C 0 f_X5_26 dX5_withIslands_95 rfl rfl ?_
        refine xget C 1 f_X5_152 dX5_withIslands_98 rfl rfl ?_
        refine xcallSl0 C m_X5_mixed k_X5_200 (c_X5_mixed l G tc _ _) dX5_withIslands_101 ([] : List Nat) rfl rfl rfl (by decide) rfl (Nat.le_of_ble_eq_true rfl) ⟨by decide, by decide⟩ ?_
        exact xlret C dX5_withIslands_104 (hz) (rfl)
      · skip
        exact absurd (show nI (iM i) ≤ nI k from by rw [hk]; exact Int32.le_refl _) h24
    | succ f ih =>
      intro k z hk hz
      rw [dgI] at hz
      have hkm : k < iM i := by omega
      refine xiload_5 C dX5_withIslands_15 ?_
      refine xaload_0 C dX5_withIslands_17 ?_
      refine xget C 0 f_X5_26 dX5_withIslands_18 rfl rfl ?_
      refine xget C 1 f_X5_139 dX5_withIslands_21 rfl rfl ?_
      refine xicmp_ge C (tgt := 93) dX5_withIslands_24 (by decide) (fun h24 => ?_) (fun h24 => ?_)
      · skip
        exact absurd h24 (nI_ge hkm (by omega))
      · skip
        refine xlload_3 C dX5_withIslands_27 ?_
        refine xaload_0 C dX5_withIslands_28 ?_
        refine xget C 0 f_X5_26 dX5_withIslands_29 rfl rfl ?_
        refine xget C 1 f_X5_173 dX5_withIslands_32 rfl rfl ?_
        refine xiload_5 C dX5_withIslands_35 ?_
        refine xialdN C (k) 2 dX5_withIslands_37 rfl (by omega) (rfl) (by decide) ?_
        refine xcallSl0 C m_X5_mixed k_X5_200 (c_X5_mixed l G tc _ _) dX5_withIslands_38 ([] : List Nat) rfl rfl rfl (by decide) rfl (Nat.le_of_ble_eq_true rfl) ⟨by decide, by decide⟩ ?_
        refine xlstore_3 C dX5_withIslands_41 rfl (by decide) ?_
        refine xlload_3 C dX5_withIslands_42 ?_
        refine xaload_0 C dX5_withIslands_43 ?_
        refine xget C 0 f_X5_26 dX5_withIslands_44 rfl rfl ?_
        refine xget C 1 f_X5_175 dX5_withIslands_47 rfl rfl ?_
        refine xiload_5 C dX5_withIslands_50 ?_
        refine xialdN C (k) 3 dX5_withIslands_52 rfl (by omega) (rfl) (by decide) ?_
        refine xcallSl0 C m_X5_mixed k_X5_200 (c_X5_mixed l G tc _ _) dX5_withIslands_53 ([] : List Nat) rfl rfl rfl (by decide) rfl (Nat.le_of_ble_eq_true rfl) ⟨by decide, by decide⟩ ?_
        refine xlstore_3 C dX5_withIslands_56 rfl (by decide) ?_
        refine xlload_3 C dX5_withIslands_57 ?_
        refine xaload_0 C dX5_withIslands_58 ?_
        refine xget C 0 f_X5_26 dX5_withIslands_59 rfl rfl ?_
        refine xget C 1 f_X5_178 dX5_withIslands_62 rfl rfl ?_
        refine xiload_5 C dX5_withIslands_65 ?_
        refine xialdN C (k) 4 dX5_withIslands_67 rfl (by omega) (rfl) (by decide) ?_
        refine xcallSl0 C m_X5_mixed k_X5_200 (c_X5_mixed l G tc _ _) dX5_withIslands_68 ([] : List Nat) rfl rfl rfl (by decide) rfl (Nat.le_of_ble_eq_true rfl) ⟨by decide, by decide⟩ ?_
        refine xlstore_3 C dX5_withIslands_71 rfl (by decide) ?_
        refine xlload_3 C dX5_withIslands_72 ?_
        refine xaload_0 C dX5_withIslands_73 ?_
        refine xget C 0 f_X5_26 dX5_withIslands_74 rfl rfl ?_
        refine xget C 1 f_X5_181 dX5_withIslands_77 rfl rfl ?_
        refine xiload_5 C dX5_withIslands_80 ?_
        refine xialdN C (k) 5 dX5_withIslands_82 rfl (by omega) (rfl) (by decide) ?_
        refine xcallSl0 C m_X5_mixed k_X5_200 (c_X5_mixed l G tc _ _) dX5_withIslands_83 ([] : List Nat) rfl rfl rfl (by decide) rfl (Nat.le_of_ble_eq_true rfl) ⟨by decide, by decide⟩ ?_
        refine xlstore_3 C dX5_withIslands_86 rfl (by decide) ?_
        refine xiinc_5 C (nI (k + 1)) dX5_withIslands_87 (nI_1 k) rfl (by decide) ?_
        refine xgoto C (tgt := 15) dX5_withIslands_90 (by decide) ?_
        exact ih (k + 1) _ (by omega) hz
  refine xlload_1 C dX5_withIslands_0 ?_
  refine xaload_0 C dX5_withIslands_1 ?_
  refine xget C 0 f_X5_26 dX5_withIslands_2 rfl rfl ?_
  refine xget C 1 f_X5_139 dX5_withIslands_5 rfl rfl ?_
  refine xcallSl0 C m_X5_mixed k_X5_200 (c_X5_mixed l G tc _ _) dX5_withIslands_8 ([] : List Nat) rfl rfl rfl (by decide) rfl (Nat.le_of_ble_eq_true rfl) ⟨by decide, by decide⟩ ?_
  refine xlstore_3 C dX5_withIslands_11 rfl (by decide) ?_
  refine xiconst C (nI 0) dX5_withIslands_12 (by decide) ?_
  refine xistore_5 C dX5_withIslands_13 rfl (by decide) ?_
  exact loop (iM i) 0 _ (by omega) rfl
set_option maxHeartbeats 4000000 in
set_option maxRecDepth 100000 in
theorem c_X5_digest (l : Launch) (G : va_G) (tc : Nat → ClassId) (a0 : Nat) (aT aK aI aM aB : Nat → Nat) (lt : Bool) (b : Nat → Int32) (n : Nat) (ec : Int32) (ko kc ki : Nat → Int32) (kr ku : Int32) (i : IS) (hn : n ≤ 48) (hm : iM i ≤ 48) : kL l yX5_digest (xw yX5_digest cX5_digest 4 (some .long)) 2 G tc [.ref a0] (wO a0 aT aK aI aM aB lt ++ (wT tc aT b n ec ++ (wK tc aK ko kc ki kr ku ++ wIs tc aI (i)))) (dgAll b n ec lt ko kc ki kr ku i) (wO a0 aT aK aI aM aB lt ++ (wT tc aT b n ec ++ (wK tc aK ko kc ki kr ku ++ wIs tc aI (i)))) := by
  refine kL_of [some (.ref a0), none, none, none] 3 (by decide) (Nat.le_of_ble_eq_true rfl) rfl ?_
  intro p e s m args below meth c A C
  have loopK : ∀ (f k : Nat) (z : Int64), k + f = 6 → dgK ko kc ki kr ku f k z = dg0 b n ec lt ko kc ki kr ku → xAT p l e (xR 2 0 0) s m args below meth c (xQl below args s G A (dgAll b n ec lt ko kc ki kr ku i) (wO a0 aT aK aI aM aB lt ++ (wT tc aT b n ec ++ (wK tc aK ko kc ki kr ku ++ wIs tc aI (i))))) G A 4 0 0 (wO a0 aT aK aI aM aB lt ++ (wT tc aT b n ec ++ (wK tc aK ko kc ki kr ku ++ wIs tc aI (i)))) [some (.ref a0), some (.long z), none, some (.int (nI k))] 78 [] := by
    intro f
    induction f with
    | zero =>
      intro k z hkk hz
      have hkk : k = 6 := hkk
      subst hkk
      have hz : z = dg0 b n ec lt ko kc ki kr ku := hz
      refine xiload_3 C dX5_digest_78 ?_
      refine xbipush C (6) dX5_digest_79 (by decide) ?_
      refine xicmp_ge C (tgt := 173) dX5_digest_81 (by decide) (fun h81 => ?_) (fun h81 => ?_)
      · skip
        refine xaload_0 C dX5_digest_173 ?_
        refine xget C 0 f_X5_26 dX5_digest_174 rfl rfl ?_
        refine xget C 7 f_X5_155 dX5_digest_177 rfl rfl ?_
        refine xif_eq C (tgt := 191) dX5_digest_180 (by decide) (fun h180 => ?_) (fun h180 => ?_)
        · skip
          have h180 := bI0 h180
          refine xlload_1 C dX5_digest_191 ?_
          exact xlret C dX5_digest_192 (by rw [dgAll, if_neg (by rw [h180]; exact Bool.false_ne_true), hz]) (rfl)
        · skip
          have h180 := bI1 h180
          refine xaload_0 C dX5_digest_183 ?_
          refine xlload_1 C dX5_digest_184 ?_
          refine xcallVl0 C m_X5_withIslands k_X5_208 (c_X5_withIslands l G tc a0 aT aK aI aM aB lt i hm _) dX5_digest_185 0 rfl [0, 7, 8, 9, 10, 11, 12, 13, 14] rfl rfl rfl (by decide) rfl (Nat.le_of_ble_eq_true rfl) ⟨by decide, by decide⟩ ?_
          refine xgoto C (tgt := 192) dX5_digest_188 (by decide) ?_
          exact xlret C dX5_digest_192 (by rw [dgAll, if_pos h180, hz]) (rfl)
      · skip
        exact absurd (Int32.le_refl _) h81
    | succ f ih =>
      intro k z hkk hz
      rw [dgK] at hz
      have hkm : k < 6 := by omega
      have jn149 : xAT p l e (xR 2 0 0) s m args below meth c (xQl below args s G A (dgAll b n ec lt ko kc ki kr ku i) (wO a0 aT aK aI aM aB lt ++ (wT tc aT b n ec ++ (wK tc aK ko kc ki kr ku ++ wIs tc aI (i))))) G A 4 0 0 (wO a0 aT aK aI aM aB lt ++ (wT tc aT b n ec ++ (wK tc aK ko kc ki kr ku ++ wIs tc aI (i)))) [some (.ref a0), some (.long (mixd (mixd z (bI (cpl ko kc (nI k)))) (bI (hk kr (nI k))))), none, some (.int (nI k))] 149 [.int (bI (hk ku (nI k))), .long (mixd (mixd z (bI (cpl ko kc (nI k)))) (bI (hk kr (nI k))))] := by
        refine xcallSl0 C m_X5_mixed k_X5_200 (c_X5_mixed l G tc _ _) dX5_digest_149 ([] : List Nat) rfl rfl rfl (by decide) rfl (Nat.le_of_ble_eq_true rfl) ⟨by decide, by decide⟩ ?_
        refine xlstore_1 C dX5_digest_152 rfl (by decide) ?_
        refine xlload_1 C dX5_digest_153 ?_
        refine xaload_0 C dX5_digest_154 ?_
        refine xget C 0 f_X5_19 dX5_digest_155 rfl rfl ?_
        refine xget C 3 f_X5_109 dX5_digest_158 rfl rfl ?_
        refine xiload_3 C dX5_digest_161 ?_
        refine xialdN C (k) 6 dX5_digest_162 rfl (hkm) (rfl) (by decide) ?_
        refine xcallSl0 C m_X5_mixed k_X5_200 (c_X5_mixed l G tc _ _) dX5_digest_163 ([] : List Nat) rfl rfl rfl (by decide) rfl (Nat.le_of_ble_eq_true rfl) ⟨by decide, by decide⟩ ?_
        refine xlstore_1 C dX5_digest_166 rfl (by decide) ?_
        refine xiinc_3 C (nI (k + 1)) dX5_digest_167 (nI_1 k) rfl (by decide) ?_
        refine xgoto C (tgt := 78) dX5_digest_170 (by decide) ?_
        exact ih (k + 1) _ (by omega) hz
      have jn125 : xAT p l e (xR 2 0 0) s m args below meth c (xQl below args s G A (dgAll b n ec lt ko kc ki kr ku i) (wO a0 aT aK aI aM aB lt ++ (wT tc aT b n ec ++ (wK tc aK ko kc ki kr ku ++ wIs tc aI (i))))) G A 4 0 0 (wO a0 aT aK aI aM aB lt ++ (wT tc aT b n ec ++ (wK tc aK ko kc ki kr ku ++ wIs tc aI (i)))) [some (.ref a0), some (.long (mixd z (bI (cpl ko kc (nI k))))), none, some (.int (nI k))] 125 [.int (bI (hk kr (nI k))), .long (mixd z (bI (cpl ko kc (nI k))))] := by
        refine xcallSl0 C m_X5_mixed k_X5_200 (c_X5_mixed l G tc _ _) dX5_digest_125 ([] : List Nat) rfl rfl rfl (by decide) rfl (Nat.le_of_ble_eq_true rfl) ⟨by decide, by decide⟩ ?_
        refine xlstore_1 C dX5_digest_128 rfl (by decide) ?_
        refine xlload_1 C dX5_digest_129 ?_
        refine xaload_0 C dX5_digest_130 ?_
        refine xget C 0 f_X5_19 dX5_digest_131 rfl rfl ?_
        refine xget C 3 f_X5_119 dX5_digest_134 rfl rfl ?_
        refine xiload_3 C dX5_digest_137 ?_
        refine xcallSi0 C m_X5_holdsKind k_X5_204 (c_X5_holdsKind l G tc ku (nI k)) dX5_digest_138 ([] : List Nat) rfl rfl rfl (by decide) rfl (Nat.le_of_ble_eq_true rfl) ⟨by decide, by decide⟩ ?_
        refine xif_eq C (tgt := 148) dX5_digest_141 (by decide) (fun h141 => ?_) (fun h141 => ?_)
        · skip
          have h141 := bI0 h141
          refine xiconst C (0) dX5_digest_148 (by decide) ?_
          refine xtop (w := .int (bI (hk ku (nI k)))) (congrArg Value.int (bI_f h141)) ?_
          exact jn149
        · skip
          have h141 := bI1 h141
          refine xiconst C (1) dX5_digest_144 (by decide) ?_
          refine xgoto C (tgt := 149) dX5_digest_145 (by decide) ?_
          refine xtop (w := .int (bI (hk ku (nI k)))) (congrArg Value.int (bI_t h141)) ?_
          exact jn149
      have jn101 : xAT p l e (xR 2 0 0) s m args below meth c (xQl below args s G A (dgAll b n ec lt ko kc ki kr ku i) (wO a0 aT aK aI aM aB lt ++ (wT tc aT b n ec ++ (wK tc aK ko kc ki kr ku ++ wIs tc aI (i))))) G A 4 0 0 (wO a0 aT aK aI aM aB lt ++ (wT tc aT b n ec ++ (wK tc aK ko kc ki kr ku ++ wIs tc aI (i)))) [some (.ref a0), some (.long z), none, some (.int (nI k))] 101 [.int (bI (cpl ko kc (nI k))), .long z] := by
        refine xcallSl0 C m_X5_mixed k_X5_200 (c_X5_mixed l G tc _ _) dX5_digest_101 ([] : List Nat) rfl rfl rfl (by decide) rfl (Nat.le_of_ble_eq_true rfl) ⟨by decide, by decide⟩ ?_
        refine xlstore_1 C dX5_digest_104 rfl (by decide) ?_
        refine xlload_1 C dX5_digest_105 ?_
        refine xaload_0 C dX5_digest_106 ?_
        refine xget C 0 f_X5_19 dX5_digest_107 rfl rfl ?_
        refine xget C 3 f_X5_112 dX5_digest_110 rfl rfl ?_
        refine xiload_3 C dX5_digest_113 ?_
        refine xcallSi0 C m_X5_holdsKind k_X5_204 (c_X5_holdsKind l G tc kr (nI k)) dX5_digest_114 ([] : List Nat) rfl rfl rfl (by decide) rfl (Nat.le_of_ble_eq_true rfl) ⟨by decide, by decide⟩ ?_
        refine xif_eq C (tgt := 124) dX5_digest_117 (by decide) (fun h117 => ?_) (fun h117 => ?_)
        · skip
          have h117 := bI0 h117
          refine xiconst C (0) dX5_digest_124 (by decide) ?_
          refine xtop (w := .int (bI (hk kr (nI k)))) (congrArg Value.int (bI_f h117)) ?_
          exact jn125
        · skip
          have h117 := bI1 h117
          refine xiconst C (1) dX5_digest_120 (by decide) ?_
          refine xgoto C (tgt := 125) dX5_digest_121 (by decide) ?_
          refine xtop (w := .int (bI (hk kr (nI k)))) (congrArg Value.int (bI_t h117)) ?_
          exact jn125
      refine xiload_3 C dX5_digest_78 ?_
      refine xbipush C (6) dX5_digest_79 (by decide) ?_
      refine xicmp_ge C (tgt := 173) dX5_digest_81 (by decide) (fun h81 => ?_) (fun h81 => ?_)
      · skip
        exact absurd h81 (nI_ge hkm (by decide))
      · skip
        refine xlload_1 C dX5_digest_84 ?_
        refine xaload_0 C dX5_digest_85 ?_
        refine xget C 0 f_X5_19 dX5_digest_86 rfl rfl ?_
        refine xiload_3 C dX5_digest_89 ?_
        refine xcallVi0 C m_X2_isComplete k_X5_104 (c_X2_isComplete l G tc aK ko kc ki kr ku (nI k)) dX5_digest_90 3 rfl [3, 4, 5, 6] rfl rfl rfl (by decide) rfl (Nat.le_of_ble_eq_true rfl) ⟨by decide, by decide⟩ ?_
        refine xif_eq C (tgt := 100) dX5_digest_93 (by decide) (fun h93 => ?_) (fun h93 => ?_)
        · skip
          have h93 := bI0 h93
          refine xiconst C (0) dX5_digest_100 (by decide) ?_
          refine xtop (w := .int (bI (cpl ko kc (nI k)))) (congrArg Value.int (bI_f h93)) ?_
          exact jn101
        · skip
          have h93 := bI1 h93
          refine xiconst C (1) dX5_digest_96 (by decide) ?_
          refine xgoto C (tgt := 101) dX5_digest_97 (by decide) ?_
          refine xtop (w := .int (bI (cpl ko kc (nI k)))) (congrArg Value.int (bI_t h93)) ?_
          exact jn101
  have loopT : ∀ (f k : Nat) (z : Int64), k + f = n → dgK ko kc ki kr ku 6 0 (mixd (mixd (dgT b f k z) ec) (bI lt)) = dg0 b n ec lt ko kc ki kr ku → xAT p l e (xR 2 0 0) s m args below meth c (xQl below args s G A (dgAll b n ec lt ko kc ki kr ku i) (wO a0 aT aK aI aM aB lt ++ (wT tc aT b n ec ++ (wK tc aK ko kc ki kr ku ++ wIs tc aI (i))))) G A 4 0 0 (wO a0 aT aK aI aM aB lt ++ (wT tc aT b n ec ++ (wK tc aK ko kc ki kr ku ++ wIs tc aI (i)))) [some (.ref a0), some (.long z), none, some (.int (nI k))] 16 [] := by
    intro f
    induction f with
    | zero =>
      intro k z hk hz
      have hk : k = n := hk
      have hz : dgK ko kc ki kr ku 6 0 (mixd (mixd z ec) (bI lt)) = dg0 b n ec lt ko kc ki kr ku := hz
      have jn72 : xAT p l e (xR 2 0 0) s m args below meth c (xQl below args s G A (dgAll b n ec lt ko kc ki kr ku i) (wO a0 aT aK aI aM aB lt ++ (wT tc aT b n ec ++ (wK tc aK ko kc ki kr ku ++ wIs tc aI (i))))) G A 4 0 0 (wO a0 aT aK aI aM aB lt ++ (wT tc aT b n ec ++ (wK tc aK ko kc ki kr ku ++ wIs tc aI (i)))) [some (.ref a0), some (.long (mixd z ec)), none, some (.int (nI k))] 72 [.int (bI lt), .long (mixd z ec)] := by
        refine xcallSl0 C m_X5_mixed k_X5_200 (c_X5_mixed l G tc _ _) dX5_digest_72 ([] : List Nat) rfl rfl rfl (by decide) rfl (Nat.le_of_ble_eq_true rfl) ⟨by decide, by decide⟩ ?_
        refine xlstore_1 C dX5_digest_75 rfl (by decide) ?_
        refine xiconst C (nI 0) dX5_digest_76 (by decide) ?_
        refine xistore_3 C dX5_digest_77 rfl (by decide) ?_
        exact loopK 6 0 _ rfl hz
      refine xiload_3 C dX5_digest_16 ?_
      refine xaload_0 C dX5_digest_17 ?_
      refine xget C 0 f_X5_10 dX5_digest_18 rfl rfl ?_
      refine xget C 1 f_X5_59 dX5_digest_21 rfl rfl ?_
      refine xicmp_ge C (tgt := 47) dX5_digest_24 (by decide) (fun h24 => ?_) (fun h24 => ?_)
      · skip
        refine xlload_1 C dX5_digest_47 ?_
        refine xaload_0 C dX5_digest_48 ?_
        refine xget C 0 f_X5_10 dX5_digest_49 rfl rfl ?_
        refine xget C 1 f_X5_88 dX5_digest_52 rfl rfl ?_
        refine xcallSl0 C m_X5_mixed k_X5_200 (c_X5_mixed l G tc _ _) dX5_digest_55 ([] : List Nat) rfl rfl rfl (by decide) rfl (Nat.le_of_ble_eq_true rfl) ⟨by decide, by decide⟩ ?_
        refine xlstore_1 C dX5_digest_58 rfl (by decide) ?_
        refine xlload_1 C dX5_digest_59 ?_
        refine xaload_0 C dX5_digest_60 ?_
        refine xget C 0 f_X5_44 dX5_digest_61 rfl rfl ?_
        refine xif_eq C (tgt := 71) dX5_digest_64 (by decide) (fun h64 => ?_) (fun h64 => ?_)
        · skip
          have h64 := bI0 h64
          refine xiconst C (0) dX5_digest_71 (by decide) ?_
          refine xtop (w := .int (bI lt)) (congrArg Value.int (bI_f h64)) ?_
          exact jn72
        · skip
          have h64 := bI1 h64
          refine xiconst C (1) dX5_digest_67 (by decide) ?_
          refine xgoto C (tgt := 72) dX5_digest_68 (by decide) ?_
          refine xtop (w := .int (bI lt)) (congrArg Value.int (bI_t h64)) ?_
          exact jn72
      · skip
        exact absurd (show nI n ≤ nI k from by rw [hk]; exact Int32.le_refl _) h24
    | succ f ih =>
      intro k z hk hz
      rw [dgT] at hz
      have hkm : k < n := by omega
      refine xiload_3 C dX5_digest_16 ?_
      refine xaload_0 C dX5_digest_17 ?_
      refine xget C 0 f_X5_10 dX5_digest_18 rfl rfl ?_
      refine xget C 1 f_X5_59 dX5_digest_21 rfl rfl ?_
      refine xicmp_ge C (tgt := 47) dX5_digest_24 (by decide) (fun h24 => ?_) (fun h24 => ?_)
      · skip
        exact absurd h24 (nI_ge hkm (by omega))
      · skip
        refine xlload_1 C dX5_digest_27 ?_
        refine xaload_0 C dX5_digest_28 ?_
        refine xget C 0 f_X5_10 dX5_digest_29 rfl rfl ?_
        refine xget C 1 f_X5_82 dX5_digest_32 rfl rfl ?_
        refine xiload_3 C dX5_digest_35 ?_
        refine xialdN C (k) 2 dX5_digest_36 rfl (by omega) (rfl) (by decide) ?_
        refine xcallSl0 C m_X5_mixed k_X5_200 (c_X5_mixed l G tc _ _) dX5_digest_37 ([] : List Nat) rfl rfl rfl (by decide) rfl (Nat.le_of_ble_eq_true rfl) ⟨by decide, by decide⟩ ?_
        refine xlstore_1 C dX5_digest_40 rfl (by decide) ?_
        refine xiinc_3 C (nI (k + 1)) dX5_digest_41 (nI_1 k) rfl (by decide) ?_
        refine xgoto C (tgt := 16) dX5_digest_44 (by decide) ?_
        exact ih (k + 1) _ (by omega) hz
  refine xldc2 C dX5_digest_0 cl_X5_198 ?_
  refine xaload_0 C dX5_digest_3 ?_
  refine xget C 0 f_X5_10 dX5_digest_4 rfl rfl ?_
  refine xget C 1 f_X5_59 dX5_digest_7 rfl rfl ?_
  refine xcallSl0 C m_X5_mixed k_X5_200 (c_X5_mixed l G tc _ _) dX5_digest_10 ([] : List Nat) rfl rfl rfl (by decide) rfl (Nat.le_of_ble_eq_true rfl) ⟨by decide, by decide⟩ ?_
  refine xlstore_1 C dX5_digest_13 rfl (by decide) ?_
  refine xiconst C (nI 0) dX5_digest_14 (by decide) ?_
  refine xistore_3 C dX5_digest_15 rfl (by decide) ?_
  exact loopT n 0 _ (by omega) rfl
set_option maxHeartbeats 4000000 in
set_option maxRecDepth 100000 in
theorem c_X5_share (l : Launch) (hl9 : l.stackTraces = false) (G : va_G) (tc : Nat → ClassId) (a0 : Nat) (aT aK aI aM aB : Nat → Nat) (lt : Bool) (b : Nat → Int32) (n : Nat) (ec : Int32) (i : IS) (hn : n ≤ 48) (hm : iM i ≤ 48) (hnan : iR i = true → ¬ n = 0 → vf_n64 (FP.ddiv (FP.i2d (bocG (iP i) (iE i) (iA i) (-1) (iM i) 0 0)) (FP.i2d (nI n)))) : tD l yX5_share (xw yX5_share cX5_share 1 (some .double)) 1 G tc [.ref a0] (wO a0 aT aK aI aM aB lt ++ (wT tc aT (b) (n) ec ++ wIs tc aI (i))) 1 (thR (iR i)) (if n = 0 then FP.dconst0 else FP.ddiv (FP.i2d (bocG (iP i) (iE i) (iA i) (-1) (iM i) 0 0)) (FP.i2d (nI n))) (wO a0 aT aK aI aM aB lt ++ (wT tc aT (b) (n) ec ++ wIs tc aI (i))) := by
  refine tD_of [some (.ref a0)] 0 (by decide) (Nat.le_of_ble_eq_true rfl) rfl ?_
  intro p e s m args below meth c A C hT
  refine xaload_0 C dX5_share_0 ?_
  refine xprop C hT m_X5_needReading k_X5_167 (c_X5_needReading l hl9 G tc a0 aT aK aI aM aB lt i) dX5_share_1 0 rfl [0, 3, 4, 5, 6, 7, 8, 9, 10] (wO a0 aT aK aI aM aB lt ++ (wT tc aT (b) (n) ec ++ wIs tc aI (i))) rfl rfl rfl rfl rfl (by decide) rfl (Nat.le_of_ble_eq_true rfl) ⟨by decide, by decide⟩ (by decide) (by decide) (fun E hE => hE) rfl ?_
  intro hn1
  refine xaload_0 C dX5_share_4 ?_
  refine xget C 0 f_X5_10 dX5_share_5 rfl rfl ?_
  refine xget C 1 f_X5_59 dX5_share_8 rfl rfl ?_
  refine xif_ne C (tgt := 16) dX5_share_11 (by decide) (fun h11 => ?_) (fun h11 => ?_)
  · skip
    have h11 : ¬ n = 0 := fun h => h11 (by rw [h]; rfl)
    refine xaload_0 C dX5_share_16 ?_
    refine xget C 0 f_X5_26 dX5_share_17 rfl rfl ?_
    refine xiconst C (-1) dX5_share_20 (by decide) ?_
    refine xcallVi0 C m_X1_bytesOfChildren k_X5_190 (c_boc l G tc aI i hm (-1)) dX5_share_21 3 rfl [3, 4, 5, 6, 7, 8, 9, 10] rfl rfl rfl (by decide) rfl (Nat.le_of_ble_eq_true rfl) ⟨by decide, by decide⟩ ?_
    refine xi2d C dX5_share_24 ?_
    refine xaload_0 C dX5_share_25 ?_
    refine xget C 0 f_X5_10 dX5_share_26 rfl rfl ?_
    refine xget C 1 f_X5_59 dX5_share_29 rfl rfl ?_
    refine xi2d C dX5_share_32 ?_
    refine xddiv C dX5_share_33 (hnan (thR_n hn1) h11) ?_
    exact xtdret C dX5_share_34 (by decide) (by decide) (by rw [if_neg h11]) (hn1) (rfl)
  · skip
    have h11 : n = 0 := (nI_eq (b := 0) (by omega) (by decide)).mp h11
    refine xdconst0 C dX5_share_14 ?_
    exact xtdret C dX5_share_15 (by decide) (by decide) (by rw [if_pos h11]) (hn1) (rfl)
