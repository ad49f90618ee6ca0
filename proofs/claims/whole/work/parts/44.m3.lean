theorem spX2 (lt : Bool) (h : lt = false) {i : IS} {j L O : Nat} : spX lt i j (L, 2, O) = lfI i := by
  show (if lt = true then _ else _) = _
  rw [if_neg (by rw [h]; exact Bool.false_ne_true)]
theorem spX2l (lt : Bool) (h : lt = true) {i : IS} {j L O : Nat} : spX lt i j (L, 2, O) = fnI (nI (j + L)) 0 (guG (nI j) 1 (iQ i - (O + 1)) i) := by
  show (if lt = true then _ else _) = _
  rw [if_pos h]
set_option maxHeartbeats 4000000 in
set_option maxRecDepth 100000 in
theorem c_X6_step (l : Launch) (G : va_G) (tc : Nat → ClassId) (a : Nat → Nat) (th : Int32) (n : Nat) (b : Nat → Int32) (ec : Int32) (lt : Bool) (zs : Nat → Nat) (zw : Nat → Int32) (zr zo : Nat → Bool) (zi : Nat → Int32) (i : IS) (mm : Nat) (mp mz un : Nat → Nat) (hz : ∀ w, zs w ≤ 3) (hn : n ≤ 48) (j : Nat) (hj : j < n) (hi : iOk i) (hm : iM i < 48) (h8q : iQ i ≤ 8) (hkk : kOk i) : kI l yX6_step (xw yX6_step cX6_step 8 (some .int)) 2 G tc [.ref (a 0), .int (nI j)] (wX tc a (th) (n) (b) (ec) (lt) (zs) (zw) (zr) (zo) (zi) (i) (mm) (mp) (mz) (un)) (nI (stp lt b n ec zs zw zr zo zi i j).1) (wX tc a (th) (n) (b) (ec) (lt) (zs) (zw) (zr) (zo) (zi) ((stp lt b n ec zs zw zr zo zi i j).2) (mm) (mp) (mz) (un)) := by
  refine kI_of [some (.ref (a 0)), some (.int (nI j)), none, none, none, none, none, none] 6 (by decide) (Nat.le_of_ble_eq_true rfl) rfl ?_
  intro p e s m args below meth c A C
  have hH := kH_eq hkk
  have hq8 := h8q
  refine xaload_0 C dX6_step_0 ?_
  refine xget C 0 f_X6_9 dX6_step_1 rfl rfl ?_
  refine xiload_1 C dX6_step_4 ?_
  refine xialdN C (j) 1 dX6_step_5 rfl (by omega) (rfl) (by decide) ?_
  refine xaload_0 C dX6_step_6 ?_
  refine xget C 0 f_X6_13 dX6_step_7 rfl rfl ?_
  refine xicmp_ne C (tgt := 15) dX6_step_10 (by decide) (fun h10 => ?_) (fun h10 => ?_)
  · skip
    have hesc : ¬ b j = ec := h10
    have fin : ∀ (k6 : Int32) (t : Nat × Nat × Nat), t = sp3 b n ec zs zw zr zo zi i j → xAT p l e (xR 2 0 0) s m args below meth c (xQi below args s G A (nI (stp lt b n ec zs zw zr zo zi i j).1) (wX tc a (th) (n) (b) (ec) (lt) (zs) (zw) (zr) (zo) (zi) ((stp lt b n ec zs zw zr zo zi i j).2) (mm) (mp) (mz) (un))) G A 8 0 0 (wX tc a (th) (n) (b) (ec) (lt) (zs) (zw) (zr) (zo) (zi) (i) (mm) (mp) (mz) (un)) [some (.ref (a 0)), some (.int (nI j)), some (.int (nI (csH i))), some (.int (nI t.1)), some (.int (nI t.2.1)), some (.int (nI t.2.2)), some (.int k6), none] 238 [] := by
      intro k6 t ht
      have hok := sp3_ok (b := b) (n := n) (ec := ec) (zs := zs) (zw := zw) (zr := zr) (zo := zo) (zi := zi) (i := i) (j := j) hz hkk
      rw [← ht] at hok
      obtain ⟨L, S, O⟩ := t
      obtain ⟨t1, t2, t3⟩ := hok
      have t1 : L ≤ 3 := t1
      by_cases hL0 : L = 0
      · have hstp : stp lt b n ec zs zw zr zo zi i j = (1, i) := by rw [stp, if_neg hesc, if_pos (by rw [← ht]; exact hL0)]
        subst hL0
        refine xiload_3 C dX6_step_238 ?_
        refine xif_ne C (tgt := 244) dX6_step_239 (by decide) (fun h239 => ?_) (fun h239 => ?_)
        · skip
          exact absurd rfl h239
        · skip
          refine xiconst C (1) dX6_step_242 (by decide) ?_
          exact xiret C dX6_step_243 (by rw [hstp]; rfl) (by rw [hstp])
      · have hstp : stp lt b n ec zs zw zr zo zi i j = (L, spX lt i j (L, S, O)) := by rw [stp, if_neg hesc, if_neg (by rw [← ht]; exact hL0), ← ht]
        rcases t3 hL0 with ⟨s1, hq0⟩ | ⟨s1, hq0⟩ | ⟨s1, hq0⟩
        · have s1 : S = 0 := s1
          subst s1
          refine xiload_3 C dX6_step_238 ?_
          refine xif_ne C (tgt := 244) dX6_step_239 (by decide) (fun h239 => ?_) (fun h239 => ?_)
          · skip
            refine xiload_4 C dX6_step_244 ?_
            refine xif_ne C (tgt := 257) dX6_step_246 (by decide) (fun h246 => ?_) (fun h246 => ?_)
            · skip
              exact absurd rfl h246
            · skip
              refine xaload_0 C dX6_step_249 ?_
              refine xiconst C (nI 0) dX6_step_250 (by decide) ?_
              refine xiload_1 C dX6_step_251 ?_
              refine xiload_3 C dX6_step_252 ?_
              refine xiadd C dX6_step_253 ?_
              rw [nI_add j L]
              refine xcallVvA C m_X6_finish k_X6_103 (c_X6_finish l G tc a th n b ec lt zs zw zr zo zi i mm mp mz un hi hq0 hq8 (nI 0) (nI (j + L))) dX6_step_254 0 rfl rfl rfl (by decide) rfl (Nat.le_of_ble_eq_true rfl) ⟨by decide, by decide⟩ ?_
              refine xiload_4 C dX6_step_257 ?_
              refine xiconst C (1) dX6_step_259 (by decide) ?_
              refine xicmp_ne C (tgt := 270) dX6_step_260 (by decide) (fun h260 => ?_) (fun h260 => ?_)
              · skip
                refine xiload_4 C dX6_step_270 ?_
                refine xiconst C (2) dX6_step_272 (by decide) ?_
                refine xicmp_ne C (tgt := 293) dX6_step_273 (by decide) (fun h273 => ?_) (fun h273 => ?_)
                · skip
                  refine xiload_4 C dX6_step_293 ?_
                  refine xiconst C (2) dX6_step_295 (by decide) ?_
                  refine xicmp_ne C (tgt := 334) dX6_step_296 (by decide) (fun h296 => ?_) (fun h296 => ?_)
                  · skip
                    refine xiload_3 C dX6_step_334 ?_
                    exact xiret C dX6_step_335 (by rw [hstp]) (by rw [hstp]; rfl)
                  · skip
                    exact absurd (show nI 0 = 2 from h296) (by decide)
                · skip
                  exact absurd (show nI 0 = 2 from h273) (by decide)
              · skip
                exact absurd (show nI 0 = 1 from h260) (by decide)
          · skip
            exact absurd (nI_eq0 h239 (by omega)) hL0
        · have s1 : S = 1 := s1
          subst s1
          refine xiload_3 C dX6_step_238 ?_
          refine xif_ne C (tgt := 244) dX6_step_239 (by decide) (fun h239 => ?_) (fun h239 => ?_)
          · skip
            refine xiload_4 C dX6_step_244 ?_
            refine xif_ne C (tgt := 257) dX6_step_246 (by decide) (fun h246 => ?_) (fun h246 => ?_)
            · skip
              refine xiload_4 C dX6_step_257 ?_
              refine xiconst C (1) dX6_step_259 (by decide) ?_
              refine xicmp_ne C (tgt := 270) dX6_step_260 (by decide) (fun h260 => ?_) (fun h260 => ?_)
              · skip
                exact absurd rfl h260
              · skip
                refine xaload_0 C dX6_step_263 ?_
                refine xiload_5 C dX6_step_264 ?_
                refine xiload_1 C dX6_step_266 ?_
                refine xcallVvA C m_X6_begin k_X6_107 (c_X6_begin l G tc a th n b ec lt zs zw zr zo zi i mm mp mz un hm hq0.1 (nI O) (nI j)) dX6_step_267 0 rfl rfl rfl (by decide) rfl (Nat.le_of_ble_eq_true rfl) ⟨by decide, by decide⟩ ?_
                refine xiload_4 C dX6_step_270 ?_
                refine xiconst C (2) dX6_step_272 (by decide) ?_
                refine xicmp_ne C (tgt := 293) dX6_step_273 (by decide) (fun h273 => ?_) (fun h273 => ?_)
                · skip
                  refine xiload_4 C dX6_step_293 ?_
                  refine xiconst C (2) dX6_step_295 (by decide) ?_
                  refine xicmp_ne C (tgt := 334) dX6_step_296 (by decide) (fun h296 => ?_) (fun h296 => ?_)
                  · skip
                    refine xiload_3 C dX6_step_334 ?_
                    exact xiret C dX6_step_335 (by rw [hstp]) (by rw [hstp]; rfl)
                  · skip
                    exact absurd (show nI 1 = 2 from h296) (by decide)
                · skip
                  exact absurd (show nI 1 = 2 from h273) (by decide)
            · skip
              exact absurd (show nI 1 = 0 from h246) (by decide)
          · skip
            exact absurd (nI_eq0 h239 (by omega)) hL0
        · have s1 : S = 2 := s1
          subst s1
          have hq0 : O + 1 < iQ i := hq0
          have hg1 : guG (nI j) (nI 1) (iQ i - (O + 1)) i = guG (nI j) 1 (iQ i - (O + 1)) i := rfl
          have loopW : ∀ (f : Nat) (i2 : IS), iQ i2 = O + 1 + f → iOk i2 → iQ i2 ≤ 8 → guG (nI j) (nI 1) f i2 = guG (nI j) (nI 1) (iQ i - (O + 1)) i → lt = true → xAT p l e (xR 2 0 0) s m args below meth c (xQi below args s G A (nI (stp lt b n ec zs zw zr zo zi i j).1) (wX tc a (th) (n) (b) (ec) (lt) (zs) (zw) (zr) (zo) (zi) ((stp lt b n ec zs zw zr zo zi i j).2) (mm) (mp) (mz) (un))) G A 8 0 0 (wX tc a (th) (n) (b) (ec) (lt) (zs) (zw) (zr) (zo) (zi) (i2) (mm) (mp) (mz) (un)) [some (.ref (a 0)), some (.int (nI j)), some (.int (nI (csH i))), some (.int (nI L)), some (.int (nI 2)), some (.int (nI O)), some (.int k6), none] 306 [] := by
            intro f
            induction f with
            | zero =>
              intro i2 hq hi2 h82 hg hlt
              have hg : i2 = guG (nI j) (nI 1) (iQ i - (O + 1)) i := hg
              refine xaload_0 C dX6_step_306 ?_
              refine xget C 0 f_X6_93 dX6_step_307 rfl rfl ?_
              refine xiload_5 C dX6_step_310 ?_
              refine xiconst C (1) dX6_step_312 (by decide) ?_
              refine xiadd C dX6_step_313 ?_
              rw [nI_1 O]
              refine xicmp_le C (tgt := 326) dX6_step_314 (by decide) (fun h314 => ?_) (fun h314 => ?_)
              · skip
                refine xaload_0 C dX6_step_326 ?_
                refine xiconst C (nI 0) dX6_step_327 (by decide) ?_
                refine xiload_1 C dX6_step_328 ?_
                refine xiload_3 C dX6_step_329 ?_
                refine xiadd C dX6_step_330 ?_
                rw [nI_add j L]
                refine xcallVvA C m_X6_finish k_X6_103 (c_X6_finish l G tc a (th) (n) (b) (ec) (lt) (zs) (zw) (zr) (zo) (zi) (i2) (mm) (mp) (mz) (un) hi2 (by omega) h82 (nI 0) (nI (j + L))) dX6_step_331 0 rfl rfl rfl (by decide) rfl (Nat.le_of_ble_eq_true rfl) ⟨by decide, by decide⟩ ?_
                refine xiload_3 C dX6_step_334 ?_
                exact xiret C dX6_step_335 (by rw [hstp]) (by rw [hstp, spX2l lt hlt, ← hg1, ← hg]; rfl)
              · skip
                exact absurd (show nI (iQ i2) ≤ nI (O + 1) from nI_le (by omega) (by omega)) h314
            | succ f ih =>
              intro i2 hq hi2 h82 hg hlt
              rw [guG] at hg
              refine xaload_0 C dX6_step_306 ?_
              refine xget C 0 f_X6_93 dX6_step_307 rfl rfl ?_
              refine xiload_5 C dX6_step_310 ?_
              refine xiconst C (1) dX6_step_312 (by decide) ?_
              refine xiadd C dX6_step_313 ?_
              rw [nI_1 O]
              refine xicmp_le C (tgt := 326) dX6_step_314 (by decide) (fun h314 => ?_) (fun h314 => ?_)
              · skip
                exact absurd ((nI_leI (by omega) (by omega)).mp h314) (by omega)
              · skip
                refine xaload_0 C dX6_step_317 ?_
                refine xiconst C (nI 1) dX6_step_318 (by decide) ?_
                refine xiload_1 C dX6_step_319 ?_
                refine xcallVvA C m_X6_finish k_X6_103 (c_X6_finish l G tc a (th) (n) (b) (ec) (lt) (zs) (zw) (zr) (zo) (zi) (i2) (mm) (mp) (mz) (un) hi2 (by omega) h82 (nI 1) (nI j)) dX6_step_320 0 rfl rfl rfl (by decide) rfl (Nat.le_of_ble_eq_true rfl) ⟨by decide, by decide⟩ ?_
                refine xgoto C (tgt := 306) dX6_step_323 (by decide) ?_
                exact ih _ (by show iQ i2 - 1 = O + 1 + f; omega) (iOk_fn hi2) (by show iQ i2 - 1 ≤ 8; omega) hg hlt
          refine xiload_3 C dX6_step_238 ?_
          refine xif_ne C (tgt := 244) dX6_step_239 (by decide) (fun h239 => ?_) (fun h239 => ?_)
          · skip
            refine xiload_4 C dX6_step_244 ?_
            refine xif_ne C (tgt := 257) dX6_step_246 (by decide) (fun h246 => ?_) (fun h246 => ?_)
            · skip
              refine xiload_4 C dX6_step_257 ?_
              refine xiconst C (1) dX6_step_259 (by decide) ?_
              refine xicmp_ne C (tgt := 270) dX6_step_260 (by decide) (fun h260 => ?_) (fun h260 => ?_)
              · skip
                refine xiload_4 C dX6_step_270 ?_
                refine xiconst C (2) dX6_step_272 (by decide) ?_
                refine xicmp_ne C (tgt := 293) dX6_step_273 (by decide) (fun h273 => ?_) (fun h273 => ?_)
                · skip
                  exact absurd rfl h273
                · skip
                  refine xaload_0 C dX6_step_276 ?_
                  refine xget C 0 f_X6_17 dX6_step_277 rfl rfl ?_
                  refine xif_ne C (tgt := 293) dX6_step_280 (by decide) (fun h280 => ?_) (fun h280 => ?_)
                  · skip
                    have h280 := bI1 h280
                    have hlt := h280
                    refine xiload_4 C dX6_step_293 ?_
                    refine xiconst C (2) dX6_step_295 (by decide) ?_
                    refine xicmp_ne C (tgt := 334) dX6_step_296 (by decide) (fun h296 => ?_) (fun h296 => ?_)
                    · skip
                      exact absurd rfl h296
                    · skip
                      refine xaload_0 C dX6_step_299 ?_
                      refine xget C 0 f_X6_17 dX6_step_300 rfl rfl ?_
                      refine xif_eq C (tgt := 334) dX6_step_303 (by decide) (fun h303 => ?_) (fun h303 => ?_)
                      · skip
                        have h303 := bI0 h303
                        exact absurd (hlt.symm.trans h303) (by decide)
                      · skip
                        have h303 := bI1 h303
                        exact loopW (iQ i - (O + 1)) i (by omega) hi h8q rfl hlt
                  · skip
                    have h280 := bI0 h280
                    have hlt := h280
                    refine xaload_0 C dX6_step_283 ?_
                    refine xdup C dX6_step_284 rfl ?_
                    refine xget C 0 f_X6_110 dX6_step_285 rfl rfl ?_
                    refine xiconst C (1) dX6_step_288 (by decide) ?_
                    refine xiadd C dX6_step_289 ?_
                    refine xtop (w := .int (nI (iL i + 1))) (congrArg Value.int (nI_1 _)) ?_
                    refine xput C 0 (wX tc a (th) (n) (b) (ec) (lt) (zs) (zw) (zr) (zo) (zi) (lfI i) (mm) (mp) (mz) (un)) fw_X6_110 dX6_step_290 rfl (Nat.le_of_ble_eq_true rfl) rfl rfl rfl ?_
                    refine xiload_4 C dX6_step_293 ?_
                    refine xiconst C (2) dX6_step_295 (by decide) ?_
                    refine xicmp_ne C (tgt := 334) dX6_step_296 (by decide) (fun h296 => ?_) (fun h296 => ?_)
                    · skip
                      exact absurd rfl h296
                    · skip
                      refine xaload_0 C dX6_step_299 ?_
                      refine xget C 0 f_X6_17 dX6_step_300 rfl rfl ?_
                      refine xif_eq C (tgt := 334) dX6_step_303 (by decide) (fun h303 => ?_) (fun h303 => ?_)
                      · skip
                        have h303 := bI0 h303
                        refine xiload_3 C dX6_step_334 ?_
                        exact xiret C dX6_step_335 (by rw [hstp]) (by rw [hstp, spX2 lt hlt])
                      · skip
                        have h303 := bI1 h303
                        exact absurd (hlt.symm.trans h303) (by decide)
              · skip
                exact absurd (show nI 2 = 1 from h260) (by decide)
            · skip
              exact absurd (show nI 2 = 0 from h246) (by decide)
          · skip
            exact absurd (nI_eq0 h239 (by omega)) hL0
    have loopC : ∀ (f : Nat) (t : Nat × Nat × Nat), f + 1 ≤ iQ i ∨ f = 0 → t.1 ≤ 3 → spC b n ec zs zw i j f t = sp3 b n ec zs zw zr zo zi i j → zr (csH i) = false → xAT p l e (xR 2 0 0) s m args below meth c (xQi below args s G A (nI (stp lt b n ec zs zw zr zo zi i j).1) (wX tc a (th) (n) (b) (ec) (lt) (zs) (zw) (zr) (zo) (zi) ((stp lt b n ec zs zw zr zo zi i j).2) (mm) (mp) (mz) (un))) G A 8 0 0 (wX tc a (th) (n) (b) (ec) (lt) (zs) (zw) (zr) (zo) (zi) (i) (mm) (mp) (mz) (un)) [some (.ref (a 0)), some (.int (nI j)), some (.int (nI (csH i))), some (.int (nI t.1)), some (.int (nI t.2.1)), some (.int (nI t.2.2)), some (.int (nI f - 1)), none] 162 [] := by
      intro f
      induction f with
      | zero =>
        intro t hf ht1 ht hzr
        have ht : t = sp3 b n ec zs zw zr zo zi i j := ht
        refine xiload_6 C dX6_step_162 ?_
        refine xif_lt C (tgt := 238) dX6_step_164 (by decide) (fun h164 => ?_) (fun h164 => ?_)
        · skip
          exact fin _ _ ht
        · skip
          exact absurd (by decide) h164
      | succ f ih =>
        intro t hf ht1 ht hzr
        rw [spC] at ht
        rw [nI_pred]
        have hfq : f < iQ i := by omega
        have hkd := kd_eq hkk hfq
        obtain ⟨u, hu1, hu2⟩ := hi.2.2 f hfq
        have hu48 : u < 48 := by have := hi.1; omega
        have hcu : (iO i f).toNatClampNeg = u := by rw [hu2]; exact nI_clamp (by omega)
        rw [hcu] at hkd
        have hzk := hz (6 + kd i f)
        refine xiload_6 C dX6_step_162 ?_
        refine xif_lt C (tgt := 238) dX6_step_164 (by decide) (fun h164 => ?_) (fun h164 => ?_)
        · skip
          exact absurd h164 (nI_pos (by omega))
        · skip
          refine xaload_0 C dX6_step_167 ?_
          refine xget C 0 f_X6_27 dX6_step_168 rfl rfl ?_
          refine xiload_2 C dX6_step_171 ?_
          refine xzaldN C (csH i) 4 dX6_step_172 rfl (by have := (hH.2.2.1 (by omega)).1; omega) (rfl) (by decide) ?_
          refine xif_ne C (tgt := 238) dX6_step_173 (by decide) (fun h173 => ?_) (fun h173 => ?_)
          · skip
            have h173 := bI1 h173
            exact absurd (hzr.symm.trans h173) (by decide)
          · skip
            have h173 := bI0 h173
            refine xbipush C (nI 6) dX6_step_176 (by decide) ?_
            refine xaload_0 C dX6_step_178 ?_
            refine xget C 0 f_X6_37 dX6_step_179 rfl rfl ?_
            refine xaload_0 C dX6_step_182 ?_
            refine xget C 0 f_X6_52 dX6_step_183 rfl rfl ?_
            refine xiload_6 C dX6_step_186 ?_
            refine xialdN C (f) 12 dX6_step_188 rfl (by omega) (rfl) (by decide) ?_
            refine xialdN C (u) 7 dX6_step_189 rfl (hu48) (hu2) (by decide) ?_
            rw [hkd.2]
            refine xiadd C dX6_step_190 ?_
            rw [nI_add 6 (kd i f)]
            refine xistore_7 C dX6_step_191 rfl (by decide) ?_
            refine xaload_0 C dX6_step_193 ?_
            refine xiload_7 C dX6_step_194 ?_
            refine xiload_1 C dX6_step_196 ?_
            refine xcallViA C m_X6_stands k_X6_96 (c_X6_stands l G tc a th n b ec lt zs zw zr zo zi i mm mp mz un hz hn (6 + kd i f) j (by omega) (by omega)) dX6_step_197 0 rfl rfl rfl (by decide) rfl (Nat.le_of_ble_eq_true rfl) ⟨by decide, by decide⟩ ?_
            refine xif_eq C (tgt := 232) dX6_step_200 (by decide) (fun h200 => ?_) (fun h200 => ?_)
            · skip
              have h200 := bI0 h200
              refine xiinc_6 C (nI f - 1) dX6_step_232 (i32_m1 _) rfl (by decide) ?_
              refine xgoto C (tgt := 162) dX6_step_235 (by decide) ?_
              refine xfg_7 ?_
              exact ih t (by omega) ht1 (by rw [← ht, if_neg (by simp [h200])]) hzr
            · skip
              have h200 := bI1 h200
              refine xaload_0 C dX6_step_203 ?_
              refine xget C 0 f_X6_21 dX6_step_204 rfl rfl ?_
              refine xiload_7 C dX6_step_207 ?_
              refine xialdN C (6 + kd i f) 2 dX6_step_209 rfl (by omega) (rfl) (by decide) ?_
              refine xiload_3 C dX6_step_210 ?_
              refine xicmp_gt C (tgt := 217) dX6_step_211 (by decide) (fun h211 => ?_) (fun h211 => ?_)
              · skip
                have h211 : t.1 < zs (6 + kd i f) := (nI_ltI (by omega) (by omega)).mp h211
                refine xaload_0 C dX6_step_217 ?_
                refine xget C 0 f_X6_21 dX6_step_218 rfl rfl ?_
                refine xiload_7 C dX6_step_221 ?_
                refine xialdN C (6 + kd i f) 2 dX6_step_223 rfl (by omega) (rfl) (by decide) ?_
                refine xistore_3 C dX6_step_224 rfl (by decide) ?_
                refine xiconst C (nI 2) dX6_step_225 (by decide) ?_
                refine xistore_4 C dX6_step_226 rfl (by decide) ?_
                refine xiload_6 C dX6_step_228 ?_
                refine xistore_5 C dX6_step_230 rfl (by decide) ?_
                refine xiinc_6 C (nI f - 1) dX6_step_232 (i32_m1 _) rfl (by decide) ?_
                refine xgoto C (tgt := 162) dX6_step_235 (by decide) ?_
                refine xfg_7 ?_
                exact ih (zs (6 + kd i f), 2, f) (by omega) hzk (by rw [← ht, if_pos (by simp [h200, h211])]) hzr
              · skip
                have h211 : ¬ t.1 < zs (6 + kd i f) := fun h => h211 ((nI_ltI (by omega) (by omega)).mpr h)
                refine xgoto C (tgt := 232) dX6_step_214 (by decide) ?_
                refine xiinc_6 C (nI f - 1) dX6_step_232 (i32_m1 _) rfl (by decide) ?_
                refine xgoto C (tgt := 162) dX6_step_235 (by decide) ?_
                refine xfg_7 ?_
                exact ih t (by omega) ht1 (by rw [← ht, if_neg (by simp [h211])]) hzr
    have at154 : ∀ (k6 : Int32) (t : Nat × Nat × Nat), t.1 ≤ 3 → t = sp2 b n ec zs zw zr zo zi i j → xAT p l e (xR 2 0 0) s m args below meth c (xQi below args s G A (nI (stp lt b n ec zs zw zr zo zi i j).1) (wX tc a (th) (n) (b) (ec) (lt) (zs) (zw) (zr) (zo) (zi) ((stp lt b n ec zs zw zr zo zi i j).2) (mm) (mp) (mz) (un))) G A 8 0 0 (wX tc a (th) (n) (b) (ec) (lt) (zs) (zw) (zr) (zo) (zi) (i) (mm) (mp) (mz) (un)) [some (.ref (a 0)), some (.int (nI j)), some (.int (nI (csH i))), some (.int (nI t.1)), some (.int (nI t.2.1)), some (.int (nI t.2.2)), some (.int k6), none] 154 [] := by
      intro k6 t ht1 ht
      have h3 : sp3 b n ec zs zw zr zo zi i j = if zr (csH i) = true then t else spC b n ec zs zw i j (iQ i - 1) t := by rw [sp3, ht]
      rcases Nat.lt_or_ge (iQ i) 2 with hq | hq
      · have h4 : t = sp3 b n ec zs zw zr zo zi i j := by
          rw [h3, show iQ i - 1 = 0 by omega]
          split <;> rfl
        have hneg : nI (iQ i) - 2 < 0 := by
          have : ∀ q, q < 2 → nI q - 2 < 0 := by decide
          exact this _ hq
        refine xaload_0 C dX6_step_154 ?_
        refine xget C 0 f_X6_93 dX6_step_155 rfl rfl ?_
        refine xiconst C (2) dX6_step_158 (by decide) ?_
        refine xisub C dX6_step_159 ?_
        refine xistore_6 C dX6_step_160 rfl (by decide) ?_
        refine xiload_6 C dX6_step_162 ?_
        refine xif_lt C (tgt := 238) dX6_step_164 (by decide) (fun h164 => ?_) (fun h164 => ?_)
        · skip
          exact fin _ _ h4
        · skip
          exact absurd hneg h164
      · have hsub : nI (iQ i) - 2 = nI (iQ i - 1) - 1 := by
          rw [show (2 : Int32) = nI 2 from rfl, pk_sub hq, show (1 : Int32) = nI 1 from rfl, pk_sub (by omega)]
          rfl
        refine xaload_0 C dX6_step_154 ?_
        refine xget C 0 f_X6_93 dX6_step_155 rfl rfl ?_
        refine xiconst C (2) dX6_step_158 (by decide) ?_
        refine xisub C dX6_step_159 ?_
        refine xistore_6 C dX6_step_160 rfl (by decide) ?_
        rw [hsub]
        cases hzr : zr (csH i) with
        | false => exact loopC (iQ i - 1) t (by omega) ht1 (by rw [h3, if_neg (by rw [hzr]; exact Bool.false_ne_true)]) hzr
        | true =>
          have h4 : t = sp3 b n ec zs zw zr zo zi i j := by rw [h3, if_pos hzr]
          rw [show nI (iQ i - 1) - 1 = nI (iQ i - 2) from by rw [show (1 : Int32) = nI 1 from rfl, pk_sub (by omega)]; rfl]
          refine xiload_6 C dX6_step_162 ?_
          refine xif_lt C (tgt := 238) dX6_step_164 (by decide) (fun h164 => ?_) (fun h164 => ?_)
          · skip
            exact absurd h164 (nI_pos (by omega))
          · skip
            refine xaload_0 C dX6_step_167 ?_
            refine xget C 0 f_X6_27 dX6_step_168 rfl rfl ?_
            refine xiload_2 C dX6_step_171 ?_
            refine xzaldN C (csH i) 4 dX6_step_172 rfl (by have := (hH.2.2.1 (by omega)).1; omega) (rfl) (by decide) ?_
            refine xif_ne C (tgt := 238) dX6_step_173 (by decide) (fun h173 => ?_) (fun h173 => ?_)
            · skip
              have h173 := bI1 h173
              exact fin _ _ h4
            · skip
              have h173 := bI0 h173
              exact absurd (hzr.symm.trans h173) (by decide)
    have loopB : ∀ (f k : Nat) (t : Nat × Nat × Nat), k + f = 6 → t.1 ≤ 3 → iQ i < 8 → spB b n ec zs zw zr zo zi (csH i) j f k t = sp2 b n ec zs zw zr zo zi i j → xAT p l e (xR 2 0 0) s m args below meth c (xQi below args s G A (nI (stp lt b n ec zs zw zr zo zi i j).1) (wX tc a (th) (n) (b) (ec) (lt) (zs) (zw) (zr) (zo) (zi) ((stp lt b n ec zs zw zr zo zi i j).2) (mm) (mp) (mz) (un))) G A 8 0 0 (wX tc a (th) (n) (b) (ec) (lt) (zs) (zw) (zr) (zo) (zi) (i) (mm) (mp) (mz) (un)) [some (.ref (a 0)), some (.int (nI j)), some (.int (nI (csH i))), some (.int (nI t.1)), some (.int (nI t.2.1)), some (.int (nI t.2.2)), some (.int (nI k)), none] 83 [] := by
      intro f
      induction f with
      | zero =>
        intro k t hk ht1 hq ht
        have hk : k = 6 := hk
        subst hk
        have ht : t = sp2 b n ec zs zw zr zo zi i j := ht
        refine xiload_6 C dX6_step_83 ?_
        refine xbipush C (6) dX6_step_85 (by decide) ?_
        refine xicmp_ge C (tgt := 154) dX6_step_87 (by decide) (fun h87 => ?_) (fun h87 => ?_)
        · skip
          exact at154 _ _ ht1 ht
        · skip
          exact absurd (Int32.le_refl _) h87
      | succ f ih =>
        intro k t hk ht1 hq ht
        rw [spB] at ht
        have hkl : k < 6 := by omega
        have hzk := hz k
        refine xiload_6 C dX6_step_83 ?_
        refine xbipush C (6) dX6_step_85 (by decide) ?_
        refine xicmp_ge C (tgt := 154) dX6_step_87 (by decide) (fun h87 => ?_) (fun h87 => ?_)
        · skip
          exact absurd h87 (nI_ge hkl (by decide))
        · skip
          refine xaload_0 C dX6_step_90 ?_
          refine xget C 0 f_X6_93 dX6_step_91 rfl rfl ?_
          refine xbipush C (8) dX6_step_94 (by decide) ?_
          refine xicmp_ge C (tgt := 154) dX6_step_96 (by decide) (fun h96 => ?_) (fun h96 => ?_)
          · skip
            exact absurd h96 (nI_ge hq (by decide))
          · skip
            refine xaload_0 C dX6_step_99 ?_
            refine xiload_6 C dX6_step_100 ?_
            refine xiload_2 C dX6_step_102 ?_
            refine xcallViA C m_X6_canStand k_X6_100 (c_X6_canStand l G tc a th n b ec lt zs zw zr zo zi i mm mp mz un hz k (csH i) hkl hH.1) dX6_step_103 0 rfl rfl rfl (by decide) rfl (Nat.le_of_ble_eq_true rfl) ⟨by decide, by decide⟩ ?_
            refine xif_eq C (tgt := 148) dX6_step_106 (by decide) (fun h106 => ?_) (fun h106 => ?_)
            · skip
              have h106 := bI0 h106
              refine xiinc_6 C (nI (k + 1)) dX6_step_148 (nI_1 k) rfl (by decide) ?_
              refine xgoto C (tgt := 83) dX6_step_151 (by decide) ?_
              exact ih (k + 1) t (by omega) ht1 hq (by rw [← ht, if_neg (by simp [h106])])
            · skip
              have h106 := bI1 h106
              refine xaload_0 C dX6_step_109 ?_
              refine xiload_6 C dX6_step_110 ?_
              refine xiload_1 C dX6_step_112 ?_
              refine xcallViA C m_X6_stands k_X6_96 (c_X6_stands l G tc a th n b ec lt zs zw zr zo zi i mm mp mz un hz hn (k) j (by omega) (by omega)) dX6_step_113 0 rfl rfl rfl (by decide) rfl (Nat.le_of_ble_eq_true rfl) ⟨by decide, by decide⟩ ?_
              refine xif_eq C (tgt := 148) dX6_step_116 (by decide) (fun h116 => ?_) (fun h116 => ?_)
              · skip
                have h116 := bI0 h116
                refine xiinc_6 C (nI (k + 1)) dX6_step_148 (nI_1 k) rfl (by decide) ?_
                refine xgoto C (tgt := 83) dX6_step_151 (by decide) ?_
                exact ih (k + 1) t (by omega) ht1 hq (by rw [← ht, if_neg (by simp [h116])])
              · skip
                have h116 := bI1 h116
                refine xaload_0 C dX6_step_119 ?_
                refine xget C 0 f_X6_21 dX6_step_120 rfl rfl ?_
                refine xiload_6 C dX6_step_123 ?_
                refine xialdN C (k) 2 dX6_step_125 rfl (by omega) (rfl) (by decide) ?_
                refine xiload_3 C dX6_step_126 ?_
                refine xicmp_gt C (tgt := 133) dX6_step_127 (by decide) (fun h127 => ?_) (fun h127 => ?_)
                · skip
                  have h127 : t.1 < zs k := (nI_ltI (by omega) (by omega)).mp h127
                  refine xaload_0 C dX6_step_133 ?_
                  refine xget C 0 f_X6_21 dX6_step_134 rfl rfl ?_
                  refine xiload_6 C dX6_step_137 ?_
                  refine xialdN C (k) 2 dX6_step_139 rfl (by omega) (rfl) (by decide) ?_
                  refine xistore_3 C dX6_step_140 rfl (by decide) ?_
                  refine xiconst C (nI 1) dX6_step_141 (by decide) ?_
                  refine xistore_4 C dX6_step_142 rfl (by decide) ?_
                  refine xiload_6 C dX6_step_144 ?_
                  refine xistore_5 C dX6_step_146 rfl (by decide) ?_
                  refine xiinc_6 C (nI (k + 1)) dX6_step_148 (nI_1 k) rfl (by decide) ?_
                  refine xgoto C (tgt := 83) dX6_step_151 (by decide) ?_
                  exact ih (k + 1) (zs k, 1, k) (by omega) hzk hq (by rw [← ht, if_pos (by simp [h106, h116, h127])])
                · skip
                  have h127 : ¬ t.1 < zs k := fun h => h127 ((nI_ltI (by omega) (by omega)).mpr h)
                  refine xgoto C (tgt := 148) dX6_step_130 (by decide) ?_
                  refine xiinc_6 C (nI (k + 1)) dX6_step_148 (nI_1 k) rfl (by decide) ?_
                  refine xgoto C (tgt := 83) dX6_step_151 (by decide) ?_
                  exact ih (k + 1) t (by omega) ht1 hq (by rw [← ht, if_neg (by simp [h127])])
    have at80 : ∀ (t : Nat × Nat × Nat), t = spA b n ec zs zw i j → xAT p l e (xR 2 0 0) s m args below meth c (xQi below args s G A (nI (stp lt b n ec zs zw zr zo zi i j).1) (wX tc a (th) (n) (b) (ec) (lt) (zs) (zw) (zr) (zo) (zi) ((stp lt b n ec zs zw zr zo zi i j).2) (mm) (mp) (mz) (un))) G A 8 0 0 (wX tc a (th) (n) (b) (ec) (lt) (zs) (zw) (zr) (zo) (zi) (i) (mm) (mp) (mz) (un)) [some (.ref (a 0)), some (.int (nI j)), some (.int (nI (csH i))), some (.int (nI t.1)), some (.int (nI t.2.1)), some (.int (nI t.2.2)), none, none] 80 [] := by
      intro t ht
      have ht1 : t.1 ≤ 3 := by rw [ht]; exact (spA_ok hz hkk).1
      rcases Nat.lt_or_ge (iQ i) 8 with hq | hq
      · have h2 : spB b n ec zs zw zr zo zi (csH i) j 6 0 t = sp2 b n ec zs zw zr zo zi i j := by rw [sp2, if_pos hq, ht]
        refine xiconst C (nI 0) dX6_step_80 (by decide) ?_
        refine xistore_6 C dX6_step_81 rfl (by decide) ?_
        exact loopB 6 0 t rfl ht1 hq h2
      · have h2 : t = sp2 b n ec zs zw zr zo zi i j := by rw [sp2, if_neg (by omega), ht]
        refine xiconst C (nI 0) dX6_step_80 (by decide) ?_
        refine xistore_6 C dX6_step_81 rfl (by decide) ?_
        refine xiload_6 C dX6_step_83 ?_
        refine xbipush C (6) dX6_step_85 (by decide) ?_
        refine xicmp_ge C (tgt := 154) dX6_step_87 (by decide) (fun h87 => ?_) (fun h87 => ?_)
        · skip
          exact absurd h87 (by decide)
        · skip
          refine xaload_0 C dX6_step_90 ?_
          refine xget C 0 f_X6_93 dX6_step_91 rfl rfl ?_
          refine xbipush C (8) dX6_step_94 (by decide) ?_
          refine xicmp_ge C (tgt := 154) dX6_step_96 (by decide) (fun h96 => ?_) (fun h96 => ?_)
          · skip
            exact at154 _ _ ht1 h2
          · skip
            exact absurd (show nI 8 ≤ nI (iQ i) from nI_le hq (by omega)) h96
    refine xaload_0 C dX6_step_15 ?_
    refine xget C 0 f_X6_93 dX6_step_16 rfl rfl ?_
    refine xif_ne C (tgt := 27) dX6_step_19 (by decide) (fun h19 => ?_) (fun h19 => ?_)
    · skip
      have h19 : ¬ iQ i = 0 := nI_neq0 h19
      obtain ⟨v, hv1, hv2⟩ := hi.2.2 (iQ i - 1) (by omega)
      have hv48 : v < 48 := by have := hi.1; omega
      refine xaload_0 C dX6_step_27 ?_
      refine xget C 0 f_X6_37 dX6_step_28 rfl rfl ?_
      refine xaload_0 C dX6_step_31 ?_
      refine xget C 0 f_X6_52 dX6_step_32 rfl rfl ?_
      refine xaload_0 C dX6_step_35 ?_
      refine xget C 0 f_X6_93 dX6_step_36 rfl rfl ?_
      refine xiconst C (1) dX6_step_39 (by decide) ?_
      refine xisub C dX6_step_40 ?_
      refine xialdN C (iQ i - 1) 12 dX6_step_41 rfl (by omega) (pk_sub (a := iQ i) (b := 1) (by omega)) (by decide) ?_
      refine xialdN C (v) 7 dX6_step_42 rfl (hv48) (hv2) (by decide) ?_
      refine xtop (w := .int (nI (csH i))) (congrArg Value.int (by rw [← hH.2.1, okd, if_pos (by omega)]; show _ = iK i (iO i (iQ i - 1)).toNatClampNeg; rw [hv2, nI_clamp (by omega)])) ?_
      refine xistore_2 C dX6_step_43 rfl (by decide) ?_
      refine xiconst C (nI 0) dX6_step_44 (by decide) ?_
      refine xistore_3 C dX6_step_45 rfl (by decide) ?_
      refine xiconst C (nI 0) dX6_step_46 (by decide) ?_
      refine xistore_4 C dX6_step_47 rfl (by decide) ?_
      refine xiconst C (nI 0) dX6_step_49 (by decide) ?_
      refine xistore_5 C dX6_step_50 rfl (by decide) ?_
      refine xiload_2 C dX6_step_52 ?_
      refine xbipush C (nI 6) dX6_step_53 (by decide) ?_
      refine xicmp_eq C (tgt := 80) dX6_step_55 (by decide) (fun h55 => ?_) (fun h55 => ?_)
      · skip
        have h55 : csH i = 6 := (nI_eq (by omega) (by decide)).mp h55
        exact at80 (0, 0, 0) (by rw [spA, if_neg (by simp [h55])])
      · skip
        have h55 : ¬ csH i = 6 := fun h => h55 (by rw [h])
        refine xaload_0 C dX6_step_58 ?_
        refine xbipush C (nI 6) dX6_step_59 (by decide) ?_
        refine xiload_2 C dX6_step_61 ?_
        refine xiadd C dX6_step_62 ?_
        rw [nI_add 6 (csH i)]
        refine xiload_1 C dX6_step_63 ?_
        refine xcallViA C m_X6_stands k_X6_96 (c_X6_stands l G tc a th n b ec lt zs zw zr zo zi i mm mp mz un hz hn (6 + csH i) j (by omega) (by omega)) dX6_step_64 0 rfl rfl rfl (by decide) rfl (Nat.le_of_ble_eq_true rfl) ⟨by decide, by decide⟩ ?_
        refine xif_eq C (tgt := 80) dX6_step_67 (by decide) (fun h67 => ?_) (fun h67 => ?_)
        · skip
          have h67 := bI0 h67
          exact at80 (0, 0, 0) (by rw [spA, if_neg (by simp [h67])])
        · skip
          have h67 := bI1 h67
          refine xaload_0 C dX6_step_70 ?_
          refine xget C 0 f_X6_21 dX6_step_71 rfl rfl ?_
          refine xbipush C (nI 6) dX6_step_74 (by decide) ?_
          refine xiload_2 C dX6_step_76 ?_
          refine xiadd C dX6_step_77 ?_
          refine xialdN C (6 + csH i) 2 dX6_step_78 rfl (by omega) (nI_add 6 (csH i)) (by decide) ?_
          refine xistore_3 C dX6_step_79 rfl (by decide) ?_
          exact at80 (zs (6 + csH i), 0, 0) (by rw [spA, if_pos (by simp [h55, h67])])
    · skip
      have h19 : iQ i = 0 := nI_eq0 h19 (by omega)
      refine xbipush C (6) dX6_step_22 (by decide) ?_
      refine xgoto C (tgt := 43) dX6_step_24 (by decide) ?_
      refine xtop (w := .int (nI (csH i))) (congrArg Value.int (by rw [hH.2.2.2 h19]; rfl)) ?_
      refine xistore_2 C dX6_step_43 rfl (by decide) ?_
      refine xiconst C (nI 0) dX6_step_44 (by decide) ?_
      refine xistore_3 C dX6_step_45 rfl (by decide) ?_
      refine xiconst C (nI 0) dX6_step_46 (by decide) ?_
      refine xistore_4 C dX6_step_47 rfl (by decide) ?_
      refine xiconst C (nI 0) dX6_step_49 (by decide) ?_
      refine xistore_5 C dX6_step_50 rfl (by decide) ?_
      refine xiload_2 C dX6_step_52 ?_
      refine xbipush C (nI 6) dX6_step_53 (by decide) ?_
      refine xicmp_eq C (tgt := 80) dX6_step_55 (by decide) (fun h55 => ?_) (fun h55 => ?_)
      · skip
        have h55 : csH i = 6 := (nI_eq (by omega) (by decide)).mp h55
        exact at80 (0, 0, 0) (by rw [spA, if_neg (by simp [h55])])
      · skip
        have h55 : ¬ csH i = 6 := fun h => h55 (by rw [h])
        refine xaload_0 C dX6_step_58 ?_
        refine xbipush C (nI 6) dX6_step_59 (by decide) ?_
        refine xiload_2 C dX6_step_61 ?_
        refine xiadd C dX6_step_62 ?_
        rw [nI_add 6 (csH i)]
        refine xiload_1 C dX6_step_63 ?_
        refine xcallViA C m_X6_stands k_X6_96 (c_X6_stands l G tc a th n b ec lt zs zw zr zo zi i mm mp mz un hz hn (6 + csH i) j (by omega) (by omega)) dX6_step_64 0 rfl rfl rfl (by decide) rfl (Nat.le_of_ble_eq_true rfl) ⟨by decide, by decide⟩ ?_
        refine xif_eq C (tgt := 80) dX6_step_67 (by decide) (fun h67 => ?_) (fun h67 => ?_)
        · skip
          have h67 := bI0 h67
          exact at80 (0, 0, 0) (by rw [spA, if_neg (by simp [h67])])
        · skip
          have h67 := bI1 h67
          refine xaload_0 C dX6_step_70 ?_
          refine xget C 0 f_X6_21 dX6_step_71 rfl rfl ?_
          refine xbipush C (nI 6) dX6_step_74 (by decide) ?_
          refine xiload_2 C dX6_step_76 ?_
          refine xiadd C dX6_step_77 ?_
          refine xialdN C (6 + csH i) 2 dX6_step_78 rfl (by omega) (nI_add 6 (csH i)) (by decide) ?_
          refine xistore_3 C dX6_step_79 rfl (by decide) ?_
          exact at80 (zs (6 + csH i), 0, 0) (by rw [spA, if_pos (by simp [h55, h67])])
  · skip
    refine xiconst C (2) dX6_step_13 (by decide) ?_
    exact xiret C dX6_step_14 (by rw [stp, if_pos (by assumption)]; rfl) (by rw [stp, if_pos (by assumption)])
