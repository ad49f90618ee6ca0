theorem mk_in {x : Int32} {n : Nat} (h0 : ¬ x < 0) (h : x < nI n) (hn : n ≤ 48) : vp_in x 48 := by
  rw [vp_in_iff]
  rw [Int32.lt_iff_toInt_lt] at h0
  rw [Int32.lt_iff_toInt_lt, nI_toInt (by omega)] at h
  have : (0 : Int32).toInt = 0 := by decide
  omega
def tIx (l : Launch) (y : MethodName) (ws : List Cond) (d : Nat) (G : va_G) (tc : Nat → ClassId) (av : List Value) (w0 : va_W) (n : Nat) (thr : Option String) (wx : va_W) (r : Int32) (w1 : va_W) : Prop := ∀ sz : Nat, vx_Met l y ws (xR d n (6 * n)) (xPre G tc av w0 sz) (va_Qi (fun r' (_ : Unit) => thr = none ∧ r' = r) (xB G (va_A w0 sz) w1) (va_A w0 sz)) (xX G (va_A w0 sz) thr wx) n (6 * n) (va_A w0 sz)
theorem tIx_of {l : Launch} {G : va_G} {tc : Nat → ClassId} {d n : Nat} {thr : Option String} {w0 w1 wx : va_W} {y : MethodName} {cy : ByteArray} {ny : Nat} {rt : Option FieldType} {av : List Value} {r : Int32} (lv : List (Option Value)) (k : Nat) (hy : plainName y.cls = true) (hn : (lg_sl av).length ≤ ny) (hlv : xargs av ++ List.replicate k none = lv)
    (body : ∀ p e s m args below meth c A, CX p (xR d n (6 * n)) s m args meth c cy ny y.cls rt G tc A d → (∀ x ∈ c.exceptionTable.toList, False) → xAT p l e (xR d n (6 * n)) s m args below meth c (xTi below args s G A wx n thr r w1) G A ny 0 0 w0 lv 0 []) : tIx l y (xw y cy ny rt) d G tc av w0 n thr wx r w1 := by
  intro sz
  refine vx_ofW (cc := cy) (maxL := ny) (ret := rt) hy rfl ?_
  intro p e s m args below meth c s₁ B hml hT hv
  obtain ⟨rfl, hsz, hP, hD0, hE, hZ⟩ := hv
  subst hsz
  have hts := atoms_spec (ws := xw y cy ny rt) B.pre
  have C : CX p (xR d n (6 * n)) s m av.toArray meth c cy ny y.cls rt G tc (va_A w0 s.heap.size) d := ⟨B.exec, B.bytes, hml, findClass_of_methodNamed B.named, fun w hw => hts w (List.mem_cons_of_mem _ hw), B.returns, B.notSynchronized, hE, hZ, fun q h => Or.inr h, Nat.le_refl _, Nat.le_refl _⟩
  obtain ⟨ls, he, hl⟩ := xentry m av ny hn (lv := lv) (fun i v h => by
    subst hlv
    have := xargs_mem k av 0 i v h
    rwa [Nat.zero_add] at this)
  rw [he]
  exact body p e s m _ below meth c _ C hT s.heap [] ls hP (hD0.self (sz := s.heap.size)) va_S.rf hl
set_option maxHeartbeats 4000000 in
set_option maxRecDepth 100000 in
theorem c_X5_mark (l : Launch) (hl9 : l.stackTraces = false) (G : va_G) (tc : Nat → ClassId) (a0 : Nat) (aT aK aI aM aB : Nat → Nat) (lt : Bool) (b : Nat → Int32) (n : Nat) (ec : Int32) (ko kc ki : Nat → Int32) (kr ku : Int32) (mp mb mo mc : Nat → Int32) (mm : Nat) (hn : n ≤ 48) (r : MS) (hr : fmG b n ec ko kc n 0 0 (mp, mb, mo, mc, 0) = r) (hrm : r.2.2.2.2 ≤ 48) (x : Int32) : tIx l yX5_mark (xw yX5_mark cX5_mark 2 (some .int)) 5 G tc [.ref a0, .int x] (wO a0 aT aK aI aM aB lt ++ (wT tc aT b n ec ++ (wK tc aK ko kc ki kr ku ++ wM tc aM mp mb mo mc mm))) 1 (if (decide (x < 0) || !decide (x < nI r.2.2.2.2)) = true then some xIO else none) (wO a0 aT aK aI aM aB lt ++ (wT tc aT b n ec ++ (wK tc aK ko kc ki kr ku ++ wMs tc aM r))) (r.1 x.toNatClampNeg) (wO a0 aT aK aI aM aB lt ++ (wT tc aT b n ec ++ (wK tc aK ko kc ki kr ku ++ wMs tc aM r))) := by
  refine tIx_of [some (.ref a0), some (.int x)] 0 (by decide) (Nat.le_of_ble_eq_true rfl) rfl ?_
  intro p e s m args below meth c A C hT
  refine xaload_0 C dX5_mark_0 ?_
  refine xget C 0 f_X5_33 dX5_mark_1 rfl rfl ?_
  refine xaload_0 C dX5_mark_4 ?_
  refine xget C 0 f_X5_10 dX5_mark_5 rfl rfl ?_
  refine xaload_0 C dX5_mark_8 ?_
  refine xget C 0 f_X5_19 dX5_mark_9 rfl rfl ?_
  refine xcallVv C m_X3_find k_X5_140 (c_X3_find l G tc aM mp mb mo mc mm aT aK b n ec ko kc ki kr ku hn r hr) dX5_mark_12 7 rfl [7, 8, 9, 10, 11, 1, 2, 3, 4, 5, 6] (wO a0 aT aK aI aM aB lt ++ (wT tc aT b n ec ++ (wK tc aK ko kc ki kr ku ++ wMs tc aM r))) rfl rfl rfl rfl rfl (by decide) rfl (Nat.le_of_ble_eq_true rfl) ⟨by decide, by decide⟩ ?_
  refine xiload_1 C dX5_mark_15 ?_
  refine xif_lt C (tgt := 30) dX5_mark_16 (by decide) (fun h16 => ?_) (fun h16 => ?_)
  · skip
    exact xthrow C hl9 hT th_IO (List.mem_of_getElem? (i := 10) rfl) dX5_mark_30 dX5_mark_33 dX5_mark_34 dX5_mark_36 dX5_mark_39 (Nat.le_of_ble_eq_true rfl) ⟨by decide, by decide⟩ (by decide) (by decide) (by simp [*]) (rfl)
  · skip
    refine xiload_1 C dX5_mark_19 ?_
    refine xaload_0 C dX5_mark_20 ?_
    refine xget C 0 f_X5_33 dX5_mark_21 rfl rfl ?_
    refine xget C 7 f_X5_158 dX5_mark_24 rfl rfl ?_
    refine xicmp_lt C (tgt := 40) dX5_mark_27 (by decide) (fun h27 => ?_) (fun h27 => ?_)
    · skip
      refine xaload_0 C dX5_mark_40 ?_
      refine xget C 0 f_X5_33 dX5_mark_41 rfl rfl ?_
      refine xget C 7 f_X5_164 dX5_mark_44 rfl rfl ?_
      refine xiload_1 C dX5_mark_47 ?_
      refine xiald C 8 dX5_mark_48 rfl (mk_in h16 h27 hrm) ?_
      exact xtiret C dX5_mark_49 (by decide) (by decide) (rfl) (by simp [*]) (rfl)
    · skip
      exact xthrow C hl9 hT th_IO (List.mem_of_getElem? (i := 10) rfl) dX5_mark_30 dX5_mark_33 dX5_mark_34 dX5_mark_36 dX5_mark_39 (Nat.le_of_ble_eq_true rfl) ⟨by decide, by decide⟩ (by decide) (by decide) (by simp [*]) (rfl)
set_option maxHeartbeats 4000000 in
set_option maxRecDepth 100000 in
theorem c_X5_best (l : Launch) (G : va_G) (tc : Nat → ClassId) (a0 : Nat) (aT aK aI aM aB : Nat → Nat) (lt : Bool) (b : Nat → Int32) (n : Nat) (ec : Int32) (ko kc ki : Nat → Int32) (kr ku : Int32) (i0 : IS) (mp mb mo mc : Nat → Int32) (mm : Nat) (bs : Nat → Int64) (bc : Nat → Int32) (hn : n ≤ 48) (r1 : MS) (hr1 : fmG b n ec ko kc n 0 0 (mp, mb, mo, mc, 0) = r1) (hrm : r1.2.2.2.2 ≤ 48) (bs1 : Nat → Int64) (hbs : fsAll ki kr ku r1.2.2.1 r1.2.2.2.1 r1.2.2.2.2 bs = bs1) (r2 : (Nat → Int32) × IS) (hr2 : csG ki kr ku r1.1 r1.2.1 r1.2.2.1 r1.2.2.2.1 r1.2.2.2.2 bs1 r1.2.2.2.2 0 (bc, (iK i0, iA i0, iE i0, iT i0, iP i0, iD i0, iO i0, 0, 0, 0, true)) = r2) : kI l yX5_best (xw yX5_best cX5_best 1 (some .int)) 6 G tc [.ref a0] (wO a0 aT aK aI aM aB lt ++ (wT tc aT b n ec ++ (wK tc aK ko kc ki kr ku ++ (wIs tc aI i0 ++ (wM tc aM mp mb mo mc mm ++ wB tc aB bs bc))))) (nI (fN bs1 0 r1.2.2.2.2 6)) (wO a0 aT aK aI aM aB lt ++ (wT tc aT b n ec ++ (wK tc aK ko kc ki kr ku ++ (wIs tc aI (iK r2.2, iA r2.2, iE r2.2, iT r2.2, iP r2.2, iD r2.2, iO r2.2, iM r2.2, iQ r2.2, fN bs1 0 r1.2.2.2.2 6, iR r2.2) ++ (wMs tc aM r1 ++ wB tc aB bs1 r2.1))))) := by
  refine kI_of [some (.ref a0)] 0 (by decide) (Nat.le_of_ble_eq_true rfl) rfl ?_
  intro p e s m args below meth c A C
  refine xaload_0 C dX5_best_0 ?_
  refine xget C 0 f_X5_33 dX5_best_1 rfl rfl ?_
  refine xaload_0 C dX5_best_4 ?_
  refine xget C 0 f_X5_10 dX5_best_5 rfl rfl ?_
  refine xaload_0 C dX5_best_8 ?_
  refine xget C 0 f_X5_19 dX5_best_9 rfl rfl ?_
  refine xcallVv C m_X3_find k_X5_140 (c_X3_find l G tc aM mp mb mo mc mm aT aK b n ec ko kc ki kr ku hn r1 hr1) dX5_best_12 15 rfl [15, 16, 17, 18, 19, 1, 2, 3, 4, 5, 6] (wO a0 aT aK aI aM aB lt ++ (wT tc aT b n ec ++ (wK tc aK ko kc ki kr ku ++ (wIs tc aI i0 ++ (wMs tc aM r1 ++ wB tc aB bs bc))))) rfl rfl rfl rfl rfl (by decide) rfl (Nat.le_of_ble_eq_true rfl) ⟨by decide, by decide⟩ ?_
  refine xaload_0 C dX5_best_15 ?_
  refine xget C 0 f_X5_40 dX5_best_16 rfl rfl ?_
  refine xaload_0 C dX5_best_19 ?_
  refine xget C 0 f_X5_33 dX5_best_20 rfl rfl ?_
  refine xaload_0 C dX5_best_23 ?_
  refine xget C 0 f_X5_19 dX5_best_24 rfl rfl ?_
  refine xcallVv C m_X0_fillStretches k_X5_144 (c_X0_fillStretches l G tc aB bs bc aM r1.1 r1.2.1 r1.2.2.1 r1.2.2.2.1 r1.2.2.2.2 aK ko kc ki kr ku hrm bs1 hbs) dX5_best_27 20 rfl [20, 21, 22, 15, 16, 17, 18, 19, 3, 4, 5, 6] (wO a0 aT aK aI aM aB lt ++ (wT tc aT b n ec ++ (wK tc aK ko kc ki kr ku ++ (wIs tc aI i0 ++ (wMs tc aM r1 ++ wB tc aB bs1 bc))))) rfl rfl rfl rfl rfl (by decide) rfl (Nat.le_of_ble_eq_true rfl) ⟨by decide, by decide⟩ ?_
  refine xaload_0 C dX5_best_30 ?_
  refine xget C 0 f_X5_40 dX5_best_31 rfl rfl ?_
  refine xaload_0 C dX5_best_34 ?_
  refine xget C 0 f_X5_33 dX5_best_35 rfl rfl ?_
  refine xaload_0 C dX5_best_38 ?_
  refine xget C 0 f_X5_19 dX5_best_39 rfl rfl ?_
  refine xaload_0 C dX5_best_42 ?_
  refine xget C 0 f_X5_26 dX5_best_43 rfl rfl ?_
  refine xperm [20, 21, 22, 15, 16, 17, 18, 19, 3, 4, 5, 6, 7, 8, 9, 10, 11, 12, 13, 14, 0, 1, 2] ([] ++ ((wB tc aB bs1 bc ++ (wM tc aM r1.1 r1.2.1 r1.2.2.1 r1.2.2.2.1 r1.2.2.2.2 ++ (wK tc aK ko kc ki kr ku ++ wI tc aI (iK i0) (iA i0) (iE i0) (iT i0) (iP i0) (iD i0) (iO i0) (iM i0) (iQ i0) (iL i0) (iR i0)))) ++ (wO a0 aT aK aI aM aB lt ++ wT tc aT b n ec))) rfl rfl ?_
  refine xcallVvB C m_X0_chooseIslands k_X5_148 (c_X0_chooseIslands l G tc aB bs1 bc aM r1.1 r1.2.1 r1.2.2.1 r1.2.2.2.1 r1.2.2.2.2 aK ko kc ki kr ku aI (iK i0) (iA i0) (iE i0) (iT i0) (iP i0) (iD i0) (iO i0) (iM i0) (iQ i0) (iL i0) (iR i0) hrm r2 hr2) dX5_best_46 0 rfl rfl (by decide) rfl (Nat.le_of_ble_eq_true rfl) ⟨by decide, by decide⟩ ?_
  refine xperm [20, 21, 22, 8, 9, 10, 11, 12, 13, 14, 15, 16, 17, 18, 19, 3, 4, 5, 6, 7, 0, 1, 2] (wO a0 aT aK aI aM aB lt ++ (wT tc aT b n ec ++ (wK tc aK ko kc ki kr ku ++ (wIs tc aI (iK r2.2, iA r2.2, iE r2.2, iT r2.2, iP r2.2, iD r2.2, iO r2.2, iM r2.2, iQ r2.2, fN bs1 0 r1.2.2.2.2 6, iR r2.2) ++ (wMs tc aM r1 ++ wB tc aB bs1 r2.1))))) rfl rfl ?_
  refine xaload_0 C dX5_best_49 ?_
  refine xget C 0 f_X5_26 dX5_best_50 rfl rfl ?_
  refine xget C 7 f_X5_152 dX5_best_53 rfl rfl ?_
  exact xiret C dX5_best_56 (by first | rfl | (simp [*]; done)) (rfl)
