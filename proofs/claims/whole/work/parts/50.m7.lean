section
variable {b : Nat → Int32} {n : Nat} {ec : Int32} {zs : Nat → Nat} {zw : Nat → Int32} {zr zo : Nat → Bool} {zi : Nat → Int32} {mp mz un : Nat → Nat}
theorem pkG_ok {f t s9 : Nat} (ht : t ≤ 48) : ∀ (g k q : Nat), k ≤ 6 → f < q → q ≤ f + 48 → (6 - k) * 49 + (f + 1) ≤ g + q → (pkG b n ec zs zw zr zo zi mp mz un f t s9 g k q).1 ≤ 6 ∧ ((pkG b n ec zs zw zr zo zi mp mz un f t s9 g k q).1 < 6 → f < (pkG b n ec zs zw zr zo zi mp mz un f t s9 g k q).2 ∧ (pkG b n ec zs zw zr zo zi mp mz un f t s9 g k q).2 < t ∧ pkC b n ec zs zw zr zo zi mp mz un f t s9 (pkG b n ec zs zw zr zo zi mp mz un f t s9 g k q).1 (pkG b n ec zs zw zr zo zi mp mz un f t s9 g k q).2 = true)
  | 0, k, q, h1, h2, h3, h4 => by
    have : k = 6 := by omega
    subst this
    exact ⟨Nat.le_refl _, fun h => absurd h (Nat.lt_irrefl _)⟩
  | g + 1, k, q, h1, h2, h3, h4 => by
    rw [pkG]
    by_cases hk : k < 6
    · rw [if_pos hk]
      by_cases hc : (decide (q < t) && pkC b n ec zs zw zr zo zi mp mz un f t s9 k q) = true
      · rw [if_pos hc]
        simp only [Bool.and_eq_true, decide_eq_true_eq] at hc
        exact ⟨h1, fun _ => ⟨h2, hc.1, hc.2⟩⟩
      · rw [if_neg hc]
        by_cases hq : q + 1 < t
        · rw [if_pos hq]
          exact pkG_ok ht g k (q + 1) h1 (by omega) (by omega) (by omega)
        · rw [if_neg hq]
          exact pkG_ok ht g (k + 1) (f + 1) (by omega) (by omega) (by omega) (by omega)
    · rw [if_neg hk]
      exact ⟨h1, fun h => absurd h hk⟩
theorem pkF_ok {f t s9 : Nat} (ht : t ≤ 48) : ((pkF b n ec zs zw zr zo zi mp mz un) f t s9).1 ≤ 6 ∧ (((pkF b n ec zs zw zr zo zi mp mz un) f t s9).1 < 6 → f < ((pkF b n ec zs zw zr zo zi mp mz un) f t s9).2 ∧ ((pkF b n ec zs zw zr zo zi mp mz un) f t s9).2 < t ∧ pkC b n ec zs zw zr zo zi mp mz un f t s9 ((pkF b n ec zs zw zr zo zi mp mz un) f t s9).1 ((pkF b n ec zs zw zr zo zi mp mz un) f t s9).2 = true) := pkG_ok ht 400 0 (f + 1) (by omega) (by omega) (by omega) (by omega)
theorem tkG_iM : ∀ (g f t s9 : Nat) (par : Int32) (i : IS), t ≤ 48 → iM (tkG (pkF b n ec zs zw zr zo zi mp mz un) zr mp mz g f t s9 par i) ≤ iM i + (t - f)
  | 0, _, _, _, _, i, _ => Nat.le_add_right _ _
  | g + 1, f, t, s9, par, i, ht => by
    rw [tkG]
    by_cases hf : f < t
    · rw [if_pos hf]
      have hp := pkF_ok (b := b) (n := n) (ec := ec) (zs := zs) (zw := zw) (zr := zr) (zo := zo) (zi := zi) (mp := mp) (mz := mz) (un := un) (f := f) (t := t) (s9 := s9) ht
      generalize (pkF b n ec zs zw zr zo zi mp mz un) f t s9 = r at hp
      by_cases h6 : 6 ≤ r.1
      · rw [if_pos h6]
        have := tkG_iM g (f + 1) t s9 par i ht
        omega
      · rw [if_neg h6]
        have hq := hp.2 (by omega)
        by_cases hr : zr r.1 = true
        · rw [if_pos hr]
          have := tkG_iM g (r.2 + 1) t s9 par (tkI mp mz r.1 f r.2 par i) ht
          have h1 : iM (tkI mp mz r.1 f r.2 par i) = iM i + 1 := rfl
          omega
        · rw [if_neg hr]
          have h0 := tkG_iM g (f + 1) r.2 r.1 (nI (iM i)) (tkI mp mz r.1 f r.2 par i) (by omega)
          have := tkG_iM g (r.2 + 1) t s9 par (tkG (pkF b n ec zs zw zr zo zi mp mz un) zr mp mz g (f + 1) r.2 r.1 (nI (iM i)) (tkI mp mz r.1 f r.2 par i)) ht
          have h1 : iM (tkI mp mz r.1 f r.2 par i) = iM i + 1 := rfl
          omega
    · rw [if_neg hf]
      omega
end
set_option maxHeartbeats 4000000 in
set_option maxRecDepth 100000 in
theorem c_X6_take_s (l : Launch) (G : va_G) (tc : Nat → ClassId) (a : Nat → Nat) (th : Int32) (n : Nat) (b : Nat → Int32) (ec : Int32) (lt : Bool) (zs : Nat → Nat) (zw : Nat → Int32) (zr zo : Nat → Bool) (zi : Nat → Int32) (mm : Nat) (mp mz un : Nat → Nat) (hz : ∀ w, zs w ≤ 3) (hn : n ≤ 48) (hM : mOk mm mp mz) (g : Nat) (ihC : ∀ gv, gv < g → ∀ (f t s9 : Nat) (par : Int32) (i : IS), f ≤ 49 → t ≤ mm → s9 ≤ 6 → t - f ≤ gv → iM i + (t - f) ≤ 48 → kV l yX6_take (xw yX6_take cX6_take 10 none) (3 + gv) G tc [.ref (a 0), .int (nI f), .int (nI t), .int (nI s9), .int par] (wX tc a (th) (n) (b) (ec) (lt) (zs) (zw) (zr) (zo) (zi) (i) (mm) (mp) (mz) (un)) (wX tc a (th) (n) (b) (ec) (lt) (zs) (zw) (zr) (zo) (zi) (tkG (pkF b n ec zs zw zr zo zi mp mz un) zr mp mz gv f t s9 par i) (mm) (mp) (mz) (un))) (f t s9 : Nat) (par : Int32) (i : IS) (hf : f ≤ 49) (htm : t ≤ mm) (hs6 : s9 ≤ 6) (htf : t - f ≤ g) (hiM : iM i + (t - f) ≤ 48) : kV l yX6_take (xw yX6_take cX6_take 10 none) (3 + g) G tc [.ref (a 0), .int (nI f), .int (nI t), .int (nI s9), .int par] (wX tc a (th) (n) (b) (ec) (lt) (zs) (zw) (zr) (zo) (zi) (i) (mm) (mp) (mz) (un)) (wX tc a (th) (n) (b) (ec) (lt) (zs) (zw) (zr) (zo) (zi) (tkG (pkF b n ec zs zw zr zo zi mp mz un) zr mp mz g f t s9 par i) (mm) (mp) (mz) (un)) := by
  refine kV_of [some (.ref (a 0)), some (.int (nI f)), some (.int (nI t)), some (.int (nI s9)), some (.int par), none, none, none, none, none] 5 (by decide) (Nat.le_of_ble_eq_true rfl) rfl ?_
  intro p e s m args below meth c A C
  have hM48 := hM.1
  have loop : ∀ (g2 mk : Nat) (i2 : IS), g2 ≤ g → t - mk ≤ g2 → mk ≤ 49 → iM i2 + (t - mk) ≤ 48 → tkG (pkF b n ec zs zw zr zo zi mp mz un) zr mp mz g2 mk t s9 par i2 = tkG (pkF b n ec zs zw zr zo zi mp mz un) zr mp mz g f t s9 par i → xAT p l e (xR (3 + g) 0 0) s m args below meth c (xQv below args s G A (wX tc a (th) (n) (b) (ec) (lt) (zs) (zw) (zr) (zo) (zi) (tkG (pkF b n ec zs zw zr zo zi mp mz un) zr mp mz g f t s9 par i) (mm) (mp) (mz) (un))) G A 10 0 0 (wX tc a (th) (n) (b) (ec) (lt) (zs) (zw) (zr) (zo) (zi) (i2) (mm) (mp) (mz) (un)) [some (.ref (a 0)), some (.int (nI f)), some (.int (nI t)), some (.int (nI s9)), some (.int par), some (.int (nI mk)), none, none, none, none] 3 [] := by
    intro g2
    induction g2 with
    | zero =>
      intro mk i2 hg ht hmk hiM hu
      have hu : i2 = tkG (pkF b n ec zs zw zr zo zi mp mz un) zr mp mz g f t s9 par i := hu
      refine xiload_5 C dX6_take_3 ?_
      refine xiload_2 C dX6_take_5 ?_
      refine xicmp_ge C (tgt := 225) dX6_take_6 (by decide) (fun h6 => ?_) (fun h6 => ?_)
      · skip
        exact xvret C dX6_take_225 (by rw [hu])
      · skip
        exact absurd (show nI t ≤ nI mk from nI_le (by omega) (by omega)) h6
    | succ g2 ih =>
      intro mk i2 hg ht hmk hiM hu
      rcases Nat.lt_or_ge mk t with hmt | hmt
      · rw [tkG, if_pos hmt] at hu
        have hp := pkF_ok (b := b) (n := n) (ec := ec) (zs := zs) (zw := zw) (zr := zr) (zo := zo) (zi := zi) (mp := mp) (mz := mz) (un := un) (f := mk) (t := t) (s9 := s9) (by omega)
        have at101 : ∀ (k q : Nat), (k, q) = (pkF b n ec zs zw zr zo zi mp mz un) mk t s9 → xAT p l e (xR (3 + g) 0 0) s m args below meth c (xQv below args s G A (wX tc a (th) (n) (b) (ec) (lt) (zs) (zw) (zr) (zo) (zi) (tkG (pkF b n ec zs zw zr zo zi mp mz un) zr mp mz g f t s9 par i) (mm) (mp) (mz) (un))) G A 10 0 0 (wX tc a (th) (n) (b) (ec) (lt) (zs) (zw) (zr) (zo) (zi) (i2) (mm) (mp) (mz) (un)) [some (.ref (a 0)), some (.int (nI f)), some (.int (nI t)), some (.int (nI s9)), some (.int par), some (.int (nI mk)), some (.int (nI (un (atN mk t s9)))), some (.int (nI k)), some (.int (nI q)), none] 101 [] := by
          intro k q hkq
          rw [← hkq] at hp hu
          have hp1 : k ≤ 6 := hp.1
          have hp2 : k < 6 → mk < q ∧ q < t := fun h => ⟨(hp.2 h).1, (hp.2 h).2.1⟩
          rcases Nat.lt_or_ge k 6 with hk6 | hk6
          · obtain ⟨hq1, hq2⟩ := hp2 hk6
            rw [if_neg (by show ¬ 6 ≤ k; omega)] at hu
            refine xiload_7 C dX6_take_101 ?_
            refine xbipush C (6) dX6_take_103 (by decide) ?_
            refine xicmp_ne C (tgt := 114) dX6_take_105 (by decide) (fun h105 => ?_) (fun h105 => ?_)
            · skip
              refine xaload_0 C dX6_take_114 ?_
              refine xget C 0 f_X6_90 dX6_take_115 rfl rfl ?_
              refine xistore_9 C dX6_take_118 rfl (by decide) ?_
              refine xaload_0 C dX6_take_120 ?_
              refine xget C 0 f_X6_37 dX6_take_121 rfl rfl ?_
              refine xiload_9 C dX6_take_124 ?_
              refine xiload_7 C dX6_take_126 ?_
              refine xiastN C (iM i2) 7 (wX tc a (th) (n) (b) (ec) (lt) (zs) (zw) (zr) (zo) (zi) ((upd (iK i2) (iM i2) (nI k), iA i2, iE i2, iT i2, iP i2, iD i2, iO i2, iM i2, iQ i2, iL i2, iR i2)) (mm) (mp) (mz) (un)) dX6_take_128 rfl (by omega) (rfl) (by decide) rfl ?_
              refine xaload_0 C dX6_take_129 ?_
              refine xget C 0 f_X6_40 dX6_take_130 rfl rfl ?_
              refine xiload_9 C dX6_take_133 ?_
              refine xaload_0 C dX6_take_135 ?_
              refine xget C 0 f_X6_55 dX6_take_136 rfl rfl ?_
              refine xiload_5 C dX6_take_139 ?_
              refine xialdN C (mk) 13 dX6_take_141 rfl (by omega) (rfl) (by decide) ?_
              refine xiastN C (iM i2) 8 (wX tc a (th) (n) (b) (ec) (lt) (zs) (zw) (zr) (zo) (zi) ((upd (iK i2) (iM i2) (nI k), upd (iA i2) (iM i2) (nI (mp mk)), iE i2, iT i2, iP i2, iD i2, iO i2, iM i2, iQ i2, iL i2, iR i2)) (mm) (mp) (mz) (un)) dX6_take_142 rfl (by omega) (rfl) (by decide) rfl ?_
              refine xaload_0 C dX6_take_143 ?_
              refine xget C 0 f_X6_43 dX6_take_144 rfl rfl ?_
              refine xiload_9 C dX6_take_147 ?_
              refine xaload_0 C dX6_take_149 ?_
              refine xget C 0 f_X6_55 dX6_take_150 rfl rfl ?_
              refine xiload_8 C dX6_take_153 ?_
              refine xialdN C (q) 13 dX6_take_155 rfl (by omega) (rfl) (by decide) ?_
              refine xaload_0 C dX6_take_156 ?_
              refine xget C 0 f_X6_58 dX6_take_157 rfl rfl ?_
              refine xiload_8 C dX6_take_160 ?_
              refine xialdN C (q) 14 dX6_take_162 rfl (by omega) (rfl) (by decide) ?_
              refine xiadd C dX6_take_163 ?_
              refine xtop (w := .int (nI (mp q + mz q))) (congrArg Value.int (nI_add _ _)) ?_
              refine xiastN C (iM i2) 9 (wX tc a (th) (n) (b) (ec) (lt) (zs) (zw) (zr) (zo) (zi) ((upd (iK i2) (iM i2) (nI k), upd (iA i2) (iM i2) (nI (mp mk)), upd (iE i2) (iM i2) (nI (mp q + mz q)), iT i2, iP i2, iD i2, iO i2, iM i2, iQ i2, iL i2, iR i2)) (mm) (mp) (mz) (un)) dX6_take_164 rfl (by omega) (rfl) (by decide) rfl ?_
              refine xaload_0 C dX6_take_165 ?_
              refine xget C 0 f_X6_46 dX6_take_166 rfl rfl ?_
              refine xiload_9 C dX6_take_169 ?_
              refine xiconst C (0) dX6_take_171 (by decide) ?_
              refine xiastN C (iM i2) 10 (wX tc a (th) (n) (b) (ec) (lt) (zs) (zw) (zr) (zo) (zi) ((upd (iK i2) (iM i2) (nI k), upd (iA i2) (iM i2) (nI (mp mk)), upd (iE i2) (iM i2) (nI (mp q + mz q)), upd (iT i2) (iM i2) 0, iP i2, iD i2, iO i2, iM i2, iQ i2, iL i2, iR i2)) (mm) (mp) (mz) (un)) dX6_take_172 rfl (by omega) (rfl) (by decide) rfl ?_
              refine xaload_0 C dX6_take_173 ?_
              refine xget C 0 f_X6_49 dX6_take_174 rfl rfl ?_
              refine xiload_9 C dX6_take_177 ?_
              refine xiload_4 C dX6_take_179 ?_
              refine xiastN C (iM i2) 11 (wX tc a (th) (n) (b) (ec) (lt) (zs) (zw) (zr) (zo) (zi) ((upd (iK i2) (iM i2) (nI k), upd (iA i2) (iM i2) (nI (mp mk)), upd (iE i2) (iM i2) (nI (mp q + mz q)), upd (iT i2) (iM i2) 0, upd (iP i2) (iM i2) par, iD i2, iO i2, iM i2, iQ i2, iL i2, iR i2)) (mm) (mp) (mz) (un)) dX6_take_181 rfl (by omega) (rfl) (by decide) rfl ?_
              refine xaload_0 C dX6_take_182 ?_
              refine xdup C dX6_take_183 rfl ?_
              refine xget C 0 f_X6_90 dX6_take_184 rfl rfl ?_
              refine xiconst C (1) dX6_take_187 (by decide) ?_
              refine xiadd C dX6_take_188 ?_
              refine xtop (w := .int (nI (iM i2 + 1))) (congrArg Value.int (nI_1 _)) ?_
              refine xput C 0 (wX tc a (th) (n) (b) (ec) (lt) (zs) (zw) (zr) (zo) (zi) (tkI mp mz k mk q par i2) (mm) (mp) (mz) (un)) fw_X6_90 dX6_take_189 rfl (Nat.le_of_ble_eq_true rfl) rfl rfl rfl ?_
              refine xaload_0 C dX6_take_192 ?_
              refine xget C 0 f_X6_27 dX6_take_193 rfl rfl ?_
              refine xiload_7 C dX6_take_196 ?_
              refine xzaldN C (k) 4 dX6_take_198 rfl (by omega) (rfl) (by decide) ?_
              refine xif_ne C (tgt := 216) dX6_take_199 (by decide) (fun h199 => ?_) (fun h199 => ?_)
              · skip
                have h199 := bI1 h199
                refine xiload_8 C dX6_take_216 ?_
                refine xiconst C (1) dX6_take_218 (by decide) ?_
                refine xiadd C dX6_take_219 ?_
                rw [nI_1 q]
                refine xistore_5 C dX6_take_220 rfl (by decide) ?_
                refine xgoto C (tgt := 3) dX6_take_222 (by decide) ?_
                refine xfg_6 ?_
                refine xfg_7 ?_
                refine xfg_8 ?_
                refine xfg_9 ?_
                rw [if_pos h199] at hu
                exact ih (q + 1) _ (by omega) (by omega) (by omega) (by show iM i2 + 1 + _ ≤ 48; omega) hu
              · skip
                have h199 := bI0 h199
                refine xaload_0 C dX6_take_202 ?_
                refine xiload_5 C dX6_take_203 ?_
                refine xiconst C (1) dX6_take_205 (by decide) ?_
                refine xiadd C dX6_take_206 ?_
                rw [nI_1 mk]
                refine xiload_8 C dX6_take_207 ?_
                refine xiload_7 C dX6_take_209 ?_
                refine xiload_9 C dX6_take_211 ?_
                refine xcallVvA C m_X6_take k_X6_143 (ihC g2 (by omega) (mk + 1) q k (nI (iM i2)) (tkI mp mz k mk q par i2) (by omega) (by omega) (by omega) (by omega) (by show iM i2 + 1 + _ ≤ 48; omega)) dX6_take_213 0 rfl rfl rfl (by omega) rfl (Nat.le_of_ble_eq_true rfl) ⟨Nat.zero_le _, Nat.zero_le _⟩ ?_
                refine xiload_8 C dX6_take_216 ?_
                refine xiconst C (1) dX6_take_218 (by decide) ?_
                refine xiadd C dX6_take_219 ?_
                rw [nI_1 q]
                refine xistore_5 C dX6_take_220 rfl (by decide) ?_
                refine xgoto C (tgt := 3) dX6_take_222 (by decide) ?_
                refine xfg_6 ?_
                refine xfg_7 ?_
                refine xfg_8 ?_
                refine xfg_9 ?_
                rw [if_neg (by show ¬ zr k = true; rw [h199]; exact Bool.false_ne_true)] at hu
                have hle := tkG_iM (b := b) (n := n) (ec := ec) (zs := zs) (zw := zw) (zr := zr) (zo := zo) (zi := zi) (mp := mp) (mz := mz) (un := un) g2 (mk + 1) q k (nI (iM i2)) (tkI mp mz k mk q par i2) (by omega)
                have hle1 : iM (tkI mp mz k mk q par i2) = iM i2 + 1 := rfl
                exact ih (q + 1) _ (by omega) (by omega) (by omega) (by omega) hu
            · skip
              exact absurd ((nI_eq (b := 6) (by omega) (by decide)).mp h105) (by omega)
          · have hk : k = 6 := by omega
            subst hk
            rw [if_pos (Nat.le_refl _)] at hu
            refine xiload_7 C dX6_take_101 ?_
            refine xbipush C (6) dX6_take_103 (by decide) ?_
            refine xicmp_ne C (tgt := 114) dX6_take_105 (by decide) (fun h105 => ?_) (fun h105 => ?_)
            · skip
              exact absurd rfl h105
            · skip
              refine xiinc_5 C (nI (mk + 1)) dX6_take_108 (nI_1 mk) rfl (by decide) ?_
              refine xgoto C (tgt := 3) dX6_take_111 (by decide) ?_
              refine xfg_6 ?_
              refine xfg_7 ?_
              refine xfg_8 ?_
              exact ih (mk + 1) i2 (by omega) (by omega) (by omega) (by omega) hu
        have loopP : ∀ (g3 k q : Nat), k ≤ 6 → mk < q → q ≤ mk + 48 → (6 - k) * 49 + (mk + 1) ≤ g3 + q → pkG b n ec zs zw zr zo zi mp mz un mk t s9 g3 k q = (pkF b n ec zs zw zr zo zi mp mz un) mk t s9 → xAT p l e (xR (3 + g) 0 0) s m args below meth c (xQv below args s G A (wX tc a (th) (n) (b) (ec) (lt) (zs) (zw) (zr) (zo) (zi) (tkG (pkF b n ec zs zw zr zo zi mp mz un) zr mp mz g f t s9 par i) (mm) (mp) (mz) (un))) G A 10 0 0 (wX tc a (th) (n) (b) (ec) (lt) (zs) (zw) (zr) (zo) (zi) (i2) (mm) (mp) (mz) (un)) [some (.ref (a 0)), some (.int (nI f)), some (.int (nI t)), some (.int (nI s9)), some (.int par), some (.int (nI mk)), some (.int (nI (un (atN mk t s9)))), some (.int (nI k)), some (.int (nI q)), none] 33 [] := by
          intro g3
          induction g3 with
          | zero =>
            intro k q h1 h2 h3 h4 h5
            have hk : k = 6 := by omega
            subst hk
            have h5 : (6, q) = (pkF b n ec zs zw zr zo zi mp mz un) mk t s9 := h5
            refine xiload_7 C dX6_take_33 ?_
            refine xbipush C (6) dX6_take_35 (by decide) ?_
            refine xicmp_ge C (tgt := 101) dX6_take_37 (by decide) (fun h37 => ?_) (fun h37 => ?_)
            · skip
              exact at101 6 q h5
            · skip
              exact absurd (Int32.le_refl _) h37
          | succ g3 ihP =>
            intro k q h1 h2 h3 h4 h5
            rw [pkG] at h5
            rcases Nat.lt_or_ge k 6 with hk6 | hk6
            · rw [if_pos hk6] at h5
              rcases Nat.lt_or_ge q t with hqt | hqt
              · skip
                refine xiload_7 C dX6_take_33 ?_
                refine xbipush C (6) dX6_take_35 (by decide) ?_
                refine xicmp_ge C (tgt := 101) dX6_take_37 (by decide) (fun h37 => ?_) (fun h37 => ?_)
                · skip
                  exact absurd h37 (nI_ge hk6 (by decide))
                · skip
                  refine xiload_8 C dX6_take_40 ?_
                  refine xiload_2 C dX6_take_42 ?_
                  refine xicmp_ge C (tgt := 77) dX6_take_43 (by decide) (fun h43 => ?_) (fun h43 => ?_)
                  · skip
                    exact absurd h43 (nI_ge hqt (by omega))
                  · skip
                    refine xaload_0 C dX6_take_46 ?_
                    refine xiload_5 C dX6_take_47 ?_
                    refine xiload_8 C dX6_take_49 ?_
                    refine xiload_7 C dX6_take_51 ?_
                    refine xiload_3 C dX6_take_53 ?_
                    refine xcallViA C m_X6_canPair k_X6_132 (c_X6_canPair l G tc a (th) (n) (b) (ec) (lt) (zs) (zw) (zr) (zo) (zi) (i2) (mm) (mp) (mz) (un) hz hn hM mk q k s9 (by omega) (by omega) hk6 hs6) dX6_take_54 0 rfl rfl rfl (by omega) rfl (Nat.le_of_ble_eq_true rfl) ⟨Nat.zero_le _, Nat.zero_le _⟩ ?_
                    refine xif_eq C (tgt := 77) dX6_take_57 (by decide) (fun h57 => ?_) (fun h57 => ?_)
                    · skip
                      have h57 := bI0 h57
                      refine xiinc_8 C (nI (q + 1)) dX6_take_77 (nI_1 q) rfl (by decide) ?_
                      refine xiload_8 C dX6_take_80 ?_
                      refine xiload_2 C dX6_take_82 ?_
                      refine xicmp_ge C (tgt := 89) dX6_take_83 (by decide) (fun h83 => ?_) (fun h83 => ?_)
                      · skip
                        refine xiload_5 C dX6_take_89 ?_
                        refine xiconst C (1) dX6_take_91 (by decide) ?_
                        refine xiadd C dX6_take_92 ?_
                        rw [nI_1 mk]
                        refine xistore_8 C dX6_take_93 rfl (by decide) ?_
                        refine xiinc_7 C (nI (k + 1)) dX6_take_95 (nI_1 k) rfl (by decide) ?_
                        refine xgoto C (tgt := 33) dX6_take_98 (by decide) ?_
                        have hq1 : ¬ q + 1 < t := fun hh => absurd h83 (nI_ge hh (by omega))
                        rw [if_neg (by simp [hqt, pkC, h57]), if_neg hq1] at h5
                        exact ihP (k + 1) (mk + 1) (by omega) (by omega) (by omega) (by omega) h5
                      · skip
                        refine xgoto C (tgt := 33) dX6_take_86 (by decide) ?_
                        have hq1 : q + 1 < t := (nI_ltI (by omega) (by omega)).mp (i32_nle.mp h83)
                        rw [if_neg (by simp [hqt, pkC, h57]), if_pos hq1] at h5
                        exact ihP k (q + 1) h1 (by omega) (by omega) (by omega) h5
                    · skip
                      have h57 := bI1 h57
                      refine xaload_0 C dX6_take_60 ?_
                      refine xiload_5 C dX6_take_61 ?_
                      refine xiload_8 C dX6_take_63 ?_
                      refine xiload_7 C dX6_take_65 ?_
                      refine xiload_2 C dX6_take_67 ?_
                      refine xiload_3 C dX6_take_68 ?_
                      refine xcallViA C m_X6_paired k_X6_136 (c_X6_paired l G tc a (th) (n) (b) (ec) (lt) (zs) (zw) (zr) (zo) (zi) (i2) (mm) (mp) (mz) (un) mk q k t s9 (by omega) (by omega) hk6 (by omega) hs6) dX6_take_69 0 rfl rfl rfl (by omega) rfl (Nat.le_of_ble_eq_true rfl) ⟨Nat.zero_le _, Nat.zero_le _⟩ ?_
                      refine xiload_6 C dX6_take_72 ?_
                      refine xicmp_eq C (tgt := 101) dX6_take_74 (by decide) (fun h74 => ?_) (fun h74 => ?_)
                      · skip
                        exact at101 k q (by rw [← h5, if_pos (by simp [hqt, pkC, h57, h74])])
                      · skip
                        refine xiinc_8 C (nI (q + 1)) dX6_take_77 (nI_1 q) rfl (by decide) ?_
                        refine xiload_8 C dX6_take_80 ?_
                        refine xiload_2 C dX6_take_82 ?_
                        refine xicmp_ge C (tgt := 89) dX6_take_83 (by decide) (fun h83 => ?_) (fun h83 => ?_)
                        · skip
                          refine xiload_5 C dX6_take_89 ?_
                          refine xiconst C (1) dX6_take_91 (by decide) ?_
                          refine xiadd C dX6_take_92 ?_
                          rw [nI_1 mk]
                          refine xistore_8 C dX6_take_93 rfl (by decide) ?_
                          refine xiinc_7 C (nI (k + 1)) dX6_take_95 (nI_1 k) rfl (by decide) ?_
                          refine xgoto C (tgt := 33) dX6_take_98 (by decide) ?_
                          have hq1 : ¬ q + 1 < t := fun hh => absurd h83 (nI_ge hh (by omega))
                          rw [if_neg (by simp [hqt, pkC, h74]), if_neg hq1] at h5
                          exact ihP (k + 1) (mk + 1) (by omega) (by omega) (by omega) (by omega) h5
                        · skip
                          refine xgoto C (tgt := 33) dX6_take_86 (by decide) ?_
                          have hq1 : q + 1 < t := (nI_ltI (by omega) (by omega)).mp (i32_nle.mp h83)
                          rw [if_neg (by simp [hqt, pkC, h74]), if_pos hq1] at h5
                          exact ihP k (q + 1) h1 (by omega) (by omega) (by omega) h5
              · skip
                refine xiload_7 C dX6_take_33 ?_
                refine xbipush C (6) dX6_take_35 (by decide) ?_
                refine xicmp_ge C (tgt := 101) dX6_take_37 (by decide) (fun h37 => ?_) (fun h37 => ?_)
                · skip
                  exact absurd h37 (nI_ge hk6 (by decide))
                · skip
                  refine xiload_8 C dX6_take_40 ?_
                  refine xiload_2 C dX6_take_42 ?_
                  refine xicmp_ge C (tgt := 77) dX6_take_43 (by decide) (fun h43 => ?_) (fun h43 => ?_)
                  · skip
                    refine xiinc_8 C (nI (q + 1)) dX6_take_77 (nI_1 q) rfl (by decide) ?_
                    refine xiload_8 C dX6_take_80 ?_
                    refine xiload_2 C dX6_take_82 ?_
                    refine xicmp_ge C (tgt := 89) dX6_take_83 (by decide) (fun h83 => ?_) (fun h83 => ?_)
                    · skip
                      refine xiload_5 C dX6_take_89 ?_
                      refine xiconst C (1) dX6_take_91 (by decide) ?_
                      refine xiadd C dX6_take_92 ?_
                      rw [nI_1 mk]
                      refine xistore_8 C dX6_take_93 rfl (by decide) ?_
                      refine xiinc_7 C (nI (k + 1)) dX6_take_95 (nI_1 k) rfl (by decide) ?_
                      refine xgoto C (tgt := 33) dX6_take_98 (by decide) ?_
                      rw [if_neg (by simp [show ¬ q < t by omega]), if_neg (by omega)] at h5
                      exact ihP (k + 1) (mk + 1) (by omega) (by omega) (by omega) (by omega) h5
                    · skip
                      exact absurd (show nI t ≤ nI (q + 1) from nI_le (by omega) (by omega)) h83
                  · skip
                    exact absurd (show nI t ≤ nI q from nI_le hqt (by omega)) h43
            · rw [if_neg (by omega)] at h5
              have hk : k = 6 := by omega
              subst hk
              refine xiload_7 C dX6_take_33 ?_
              refine xbipush C (6) dX6_take_35 (by decide) ?_
              refine xicmp_ge C (tgt := 101) dX6_take_37 (by decide) (fun h37 => ?_) (fun h37 => ?_)
              · skip
                exact at101 6 q h5
              · skip
                exact absurd (Int32.le_refl _) h37
        refine xiload_5 C dX6_take_3 ?_
        refine xiload_2 C dX6_take_5 ?_
        refine xicmp_ge C (tgt := 225) dX6_take_6 (by decide) (fun h6 => ?_) (fun h6 => ?_)
        · skip
          exact absurd h6 (nI_ge hmt (by omega))
        · skip
          refine xaload_0 C dX6_take_9 ?_
          refine xget C 0 f_X6_61 dX6_take_10 rfl rfl ?_
          refine xaload_0 C dX6_take_13 ?_
          refine xiload_5 C dX6_take_14 ?_
          refine xiload_2 C dX6_take_16 ?_
          refine xiload_3 C dX6_take_17 ?_
          refine xcallVi0 C m_X6_at k_X6_125 (c_X6_at l G tc a (mk) (t) (s9)) dX6_take_18 0 rfl ([] : List Nat) rfl rfl rfl (by omega) rfl (Nat.le_of_ble_eq_true rfl) ⟨Nat.zero_le _, Nat.zero_le _⟩ ?_
          refine xialdN C (atN mk t s9) 15 dX6_take_21 rfl (atN_lt (by omega) (by omega) hs6) (rfl) (by decide) ?_
          refine xistore_6 C dX6_take_22 rfl (by decide) ?_
          refine xiconst C (nI 0) dX6_take_24 (by decide) ?_
          refine xistore_7 C dX6_take_25 rfl (by decide) ?_
          refine xiload_5 C dX6_take_27 ?_
          refine xiconst C (1) dX6_take_29 (by decide) ?_
          refine xiadd C dX6_take_30 ?_
          rw [nI_1 mk]
          refine xistore_8 C dX6_take_31 rfl (by decide) ?_
          exact loopP 400 0 (mk + 1) (by omega) (by omega) (by omega) (by omega) rfl
      · have hu : i2 = tkG (pkF b n ec zs zw zr zo zi mp mz un) zr mp mz g f t s9 par i := by rw [← hu, tkG, if_neg (by omega)]
        refine xiload_5 C dX6_take_3 ?_
        refine xiload_2 C dX6_take_5 ?_
        refine xicmp_ge C (tgt := 225) dX6_take_6 (by decide) (fun h6 => ?_) (fun h6 => ?_)
        · skip
          exact xvret C dX6_take_225 (by rw [hu])
        · skip
          exact absurd (show nI t ≤ nI mk from nI_le (by omega) (by omega)) h6
  refine xiload_1 C dX6_take_0 ?_
  refine xistore_5 C dX6_take_1 rfl (by decide) ?_
  exact loop g f i (Nat.le_refl _) htf hf hiM rfl
theorem c_X6_take (l : Launch) (G : va_G) (tc : Nat → ClassId) (a : Nat → Nat) (th : Int32) (n : Nat) (b : Nat → Int32) (ec : Int32) (lt : Bool) (zs : Nat → Nat) (zw : Nat → Int32) (zr zo : Nat → Bool) (zi : Nat → Int32) (mm : Nat) (mp mz un : Nat → Nat) (hz : ∀ w, zs w ≤ 3) (hn : n ≤ 48) (hM : mOk mm mp mz) (g : Nat) : ∀ (f t s9 : Nat) (par : Int32) (i : IS), f ≤ 49 → t ≤ mm → s9 ≤ 6 → t - f ≤ g → iM i + (t - f) ≤ 48 → kV l yX6_take (xw yX6_take cX6_take 10 none) (3 + g) G tc [.ref (a 0), .int (nI f), .int (nI t), .int (nI s9), .int par] (wX tc a (th) (n) (b) (ec) (lt) (zs) (zw) (zr) (zo) (zi) (i) (mm) (mp) (mz) (un)) (wX tc a (th) (n) (b) (ec) (lt) (zs) (zw) (zr) (zo) (zi) (tkG (pkF b n ec zs zw zr zo zi mp mz un) zr mp mz g f t s9 par i) (mm) (mp) (mz) (un)) := by
  induction g using Nat.strongRecOn with
  | ind g ih => exact c_X6_take_s l G tc a th n b ec lt zs zw zr zo zi mm mp mz un hz hn hM g ih
