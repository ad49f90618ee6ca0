/-! THE LAW'S HELPERS: a call that may throw, its handlers, the answer kept -/
section XH
variable {p : Program} {l : Launch} {e : Env} {R : Room} {s : State} {m : MethodId} {args : Array Value} {below : List Frame} {meth : Method} {c : Code} {Q : State → Prop} {G : va_G} {tc : Nat → ClassId} {A : Nat → Prop} {cc : ByteArray} {nL : Nat} {own : String} {ret : Option FieldType} {d cells slots pc : Nat} {ws : va_W} {lv : List (Option Value)} {st : List Value}
abbrev xwh (y : MethodName) (cc : ByteArray) (n : Nat) (hh : List (Nat × Nat × Nat × Nat)) : List Cond := Cond.codeWith y cc n (some .int) hh :: wsL_law
def xSel (own : String) (hh : List (Nat × Nat × Nat × Nat)) (pc : Nat) (E : String) (hp : Nat) : Prop := ∃ (pr : List ExceptionTableEntry) (x : ExceptionTableEntry) (suf : List ExceptionTableEntry), tableOf hh = pr ++ x :: suf ∧ (∀ z ∈ pr, z.catchType ≠ 0 ∧ ∃ nm : String, Cond.classLink own z.catchType nm ∈ wsL_law ∧ (E, nm) ∈ xNcs) ∧ covers x pc = true ∧ x.catchType ≠ 0 ∧ Cond.classLink own x.catchType E ∈ wsL_law ∧ E ∈ xCst ∧ x.handlerPc = hp
theorem hI_of {d n : Nat} {w0 w1 : va_W} {y : MethodName} {cy : ByteArray} {ny : Nat} {hh : List (Nat × Nat × Nat × Nat)} {av : List Value} {r : Int32} (lv : List (Option Value)) (k : Nat) (hy : plainName y.cls = true) (hn : (lg_sl av).length ≤ ny) (hlv : xargs av ++ List.replicate k none = lv)
    (body : ∀ p e s m args below meth c A, CX p (xR d n (6 * n)) s m args meth c cy ny y.cls (some .int) G tc A d → c.exceptionTable.toList = tableOf hh → xAT p l e (xR d n (6 * n)) s m args below meth c (xTi below args s G A w0 n none r w1) G A ny 0 0 w0 lv 0 []) : tIx l y (xwh y cy ny hh) d G tc av w0 n none w0 r w1 := by
  intro sz
  refine vx_ofWH (cc := cy) (maxL := ny) (ret := some .int) (hh := hh) hy rfl ?_
  intro p e s m args below meth c s₁ B hml hv
  obtain ⟨rfl, hsz, hP, hD0, hE, hZ⟩ := hv
  subst hsz
  have hts := atoms_spec (ws := xwh y cy ny hh) B.pre
  have C : CX p (xR d n (6 * n)) s m av.toArray meth c cy ny y.cls (some .int) G tc (va_A w0 s.heap.size) d := ⟨B.exec, B.bytes, hml, findClass_of_methodNamed B.named, fun w hw => hts w (List.mem_cons_of_mem _ hw), B.returns, B.notSynchronized, hE, hZ, fun q h => Or.inr h, Nat.le_refl _, Nat.le_refl _⟩
  obtain ⟨ls, he, hl⟩ := xentry m av ny hn (lv := lv) (fun i v h => by
    subst hlv
    have := xargs_mem k av 0 i v h
    rwa [Nat.zero_add] at this)
  rw [he]
  exact body p e s m _ below meth c _ C (vx_table (x := y) B (hts _ List.mem_cons_self)) s.heap [] ls hP (hD0.self (sz := s.heap.size)) va_S.rf hl
theorem xtry (C : CX p R s m args meth c cc nL own ret G tc A d) {hh : List (Nat × Nat × Nat × Nat)} (hT : c.exceptionTable.toList = tableOf hh) {pre wc wd wy post : va_W} {y : MethodName} {cy : ByteArray} {ny k ci idx d' a n' : Nat} {ry : Option FieldType} {As : List Value} {fs : List Value} {thr' : Option String} {r : Int32} (hm : xMv y cy ny ry k ci) (hk : Cond.methodLink own idx y ∈ wsL_law) (M : tIx l y (xw y cy ny ry) d' G tc (.ref a :: As) wc n' thr' wy r wd) (hdg : decode cc pc = .ok (.invokevirtual idx, 3)) (q0 : Nat) (he : wc[q0]? = some (a, .inr (ci, fs))) {st0 : List Value} (hn : As.length = k) (hd : d' + 1 ≤ d) (hs : st0 = As.reverse ++ .ref a :: st) (hcat : (st.map fun v => v.category).sum ≤ 8) (hcs : cells + n' ≤ R.cells ∧ slots + 6 * n' ≤ R.slots)
    (kx : ∀ (E : String) (q : Nat), thr' = some E → ∃ hp, xSel own hh pc E hp ∧ xAT p l e R s m args below meth c Q G A nL (cells + n') (slots + 6 * n') (pre ++ (wy ++ post)) lv hp [.ref q])
    (kk : thr' = none → xAT p l e R s m args below meth c Q G A nL (cells + n') (slots + 6 * n') (pre ++ (wd ++ post)) lv (pc + 3) (.int r :: st)) : xAT p l e R s m args below meth c Q G A nL cells slots (pre ++ (wc ++ post)) lv pc st0 := by
  intro H locs ls hP hD hS hl
  have hF := xfreeB hD hS C.al
  obtain ⟨T9, N9, hc9⟩ := hm.2.2.2.2.2.2
  have hrec := va_recv C.K (xP_l (xP_r hP)) hc9 he
  refine vx_calli (vx_runV (As := As) (rest := st) C.call (M H.size) (xcwV C hm hk hd) ⟨xPre_blind, hrec, xprePreB C hP hD hS⟩ rfl hn (hl.1) hs (lv_room hcat) hdg hcs) hS (fun q _ h => hF q h) hF (fun q _ h => hF q h) (fun E ce q9 u t H1 locs1 ht hvm _ hB hz1 hk1 hS1 hce hcv hcl => ?_) (fun r9 u t H1 locs1 ht hvm hw9 hB hz1 hk1 hS1 => ?_)
  · obtain ⟨hE, hP1, hD1⟩ := hB
    rw [ht] at hP1
    obtain ⟨hP2, hD2⟩ := xblk hP hD hk1 hF hP1 hD1
    obtain ⟨hp, ⟨pr, x, suf, e1, e2, e3, e4, e5, e6, e7⟩, kx2⟩ := kx E q9 hE
    refine vx_catch C.ow pr x suf (hT.trans e1) (fun z hz => Or.inr ⟨(e2 z hz).1, ?_⟩) e3 e4 (C.w e5) (va_Nw.use rfl (C.E.2.2.2.2.1 E e6)) hce hcv hcl ?_
    · obtain ⟨nm, n1, n2⟩ := (e2 z hz).2
      exact ⟨nm, C.w n1, C.E.2.2.2.2.2.1 _ n2⟩
    · rw [e7]
      exact kx2 H1 locs1 ls hP2 hD2 hS1 hl
  · obtain ⟨hP1, hD1⟩ := hB
    rw [ht] at hP1
    obtain ⟨hP2, hD2⟩ := xblk hP hD hk1 hF hP1 hD1
    obtain ⟨h1, rfl⟩ := hw9
    exact kk h1 H1 locs1 ls hP2 hD2 hS1 hl
theorem xtryD (C : CX p R s m args meth c cc nL own ret G tc A d) {hh : List (Nat × Nat × Nat × Nat)} (hT : c.exceptionTable.toList = tableOf hh) {pre wc wd post : va_W} {y : MethodName} {cy : ByteArray} {ny k ci idx d' a n' : Nat} {ry : Option FieldType} {As : List Value} {fs : List Value} {thr' : Option String} {r : UInt64} (hm : xMv y cy ny ry k ci) (hk : Cond.methodLink own idx y ∈ wsL_law) (M : tD l y (xw y cy ny ry) d' G tc (.ref a :: As) wc n' thr' r wd) (hdg : decode cc pc = .ok (.invokevirtual idx, 3)) (q0 : Nat) (he : wc[q0]? = some (a, .inr (ci, fs))) {st0 : List Value} (hn : As.length = k) (hd : d' + 1 ≤ d) (hs : st0 = As.reverse ++ .ref a :: st) (hcat : (st.map fun v => v.category).sum ≤ 8) (hcs : cells + n' ≤ R.cells ∧ slots + 6 * n' ≤ R.slots)
    (kx : ∀ (E : String) (q : Nat), thr' = some E → ∃ hp, xSel own hh pc E hp ∧ xAT p l e R s m args below meth c Q G A nL (cells + n') (slots + 6 * n') (pre ++ (wc ++ post)) lv hp [.ref q])
    (kk : thr' = none → xAT p l e R s m args below meth c Q G A nL (cells + n') (slots + 6 * n') (pre ++ (wd ++ post)) lv (pc + 3) (.double r :: st)) : xAT p l e R s m args below meth c Q G A nL cells slots (pre ++ (wc ++ post)) lv pc st0 := by
  intro H locs ls hP hD hS hl
  have hF := xfreeB hD hS C.al
  obtain ⟨T9, N9, hc9⟩ := hm.2.2.2.2.2.2
  have hrec := va_recv C.K (xP_l (xP_r hP)) hc9 he
  refine vx_calld (vx_runV (As := As) (rest := st) C.call (M H.size) (xcwV C hm hk hd) ⟨xPre_blind, hrec, xprePreB C hP hD hS⟩ rfl hn (hl.1) hs (lv_room hcat) hdg hcs) hS (fun q _ h => hF q h) hF (fun q _ h => hF q h) (fun E ce q9 u t H1 locs1 ht hvm _ hB hz1 hk1 hS1 hce hcv hcl => ?_) (fun r9 u t H1 locs1 ht hvm hw9 hB hz1 hk1 hS1 => ?_)
  · obtain ⟨hE, hP1, hD1⟩ := hB
    rw [ht] at hP1
    obtain ⟨hP2, hD2⟩ := xblk hP hD hk1 hF hP1 hD1
    obtain ⟨hp, ⟨pr, x, suf, e1, e2, e3, e4, e5, e6, e7⟩, kx2⟩ := kx E q9 hE
    refine vx_catch C.ow pr x suf (hT.trans e1) (fun z hz => Or.inr ⟨(e2 z hz).1, ?_⟩) e3 e4 (C.w e5) (va_Nw.use rfl (C.E.2.2.2.2.1 E e6)) hce hcv hcl ?_
    · obtain ⟨nm, n1, n2⟩ := (e2 z hz).2
      exact ⟨nm, C.w n1, C.E.2.2.2.2.2.1 _ n2⟩
    · rw [e7]
      exact kx2 H1 locs1 ls hP2 hD2 hS1 hl
  · obtain ⟨hP1, hD1⟩ := hB
    rw [ht] at hP1
    obtain ⟨hP2, hD2⟩ := xblk hP hD hk1 hF hP1 hD1
    obtain ⟨h1, rfl⟩ := hw9
    exact kk h1 H1 locs1 ls hP2 hD2 hS1 hl
theorem xwh_in {y : MethodName} {cy : ByteArray} {ny : Nat} {hh : List (Nat × Nat × Nat × Nat)} (h : Cond.codeWith y cy ny (some .int) hh ∈ wsL_law) : ∀ w ∈ xwh y cy ny hh, w ∈ wsL_law := fun w hw => by
  rcases List.mem_cons.mp hw with rfl | hw
  · exact h
  · exact hw
def xMh (y : MethodName) (cy : ByteArray) (ny : Nat) (hh : List (Nat × Nat × Nat × Nat)) (n : Nat) : Prop := Cond.codeWith y cy ny (some .int) hh ∈ wsL_law ∧ Cond.initialized y.cls ∈ wsL_law ∧ Cond.static y ∈ wsL_law ∧ (y.cls ≠ "java/lang/invoke/MethodHandle" ∧ y.cls ≠ "java/lang/invoke/VarHandle" ∧ (parseMethodDescriptor y.desc).map (fun d => d.parameters.length) = some n) ∧ ny ≤ 20
theorem xcwH (C : CX p R s m args meth c cc nL own ret G tc A d) {y : MethodName} {cy : ByteArray} {ny n idx d' mc ms : Nat} {hh : List (Nat × Nat × Nat × Nat)} (hm : xMh y cy ny hh n) (hk : Cond.methodLink own idx y ∈ wsL_law) (hd : d' + 1 ≤ d) : vx_CSW R s args own idx y cy ny (some .int) hh (xwh y cy ny hh) (xR d' mc ms) mc ms n := by
  obtain ⟨h1, h2, h3, h4, h5⟩ := hm
  have hr := C.room
  refine ⟨⟨rfl, rfl, by show d' + 6 + 1 ≤ R.frames; omega, by show 8 + (ny + 11) + (40 * d' + 120) ≤ R.locals; omega, pay_in C.2.2.2.2.1 (xgood (xwh_in h1)), List.mem_cons_self⟩, C.w h1, C.w h2, ⟨h4.1, h4.2.1⟩, fun sig h => ?_, C.w hk, C.w h3⟩
  have h6 := h4.2.2
  rw [h] at h6
  exact (Option.some.inj h6).symm
theorem xcallH (C : CX p R s m args meth c cc nL own ret G tc A d) {pre wc wd post : va_W} {y : MethodName} {cy : ByteArray} {ny k idx d' n' : Nat} {hh : List (Nat × Nat × Nat × Nat)} {As : List Value} {r : Int32} (hm : xMh y cy ny hh k) (hk : Cond.methodLink own idx y ∈ wsL_law) (M : tIx l y (xwh y cy ny hh) d' G tc As wc n' none wc r wd) (hdg : decode cc pc = .ok (.invokestatic idx, 3)) {st0 : List Value} (hn : As.length = k) (hd : d' + 1 ≤ d) (hs : st0 = As.reverse ++ st) (hcat : (st.map fun v => v.category).sum ≤ 8) (hcs : cells + n' ≤ R.cells ∧ slots + 6 * n' ≤ R.slots)
    (kk : xAT p l e R s m args below meth c Q G A nL (cells + n') (slots + 6 * n') (pre ++ (wd ++ post)) lv (pc + 3) (.int r :: st)) : xAT p l e R s m args below meth c Q G A nL cells slots (pre ++ (wc ++ post)) lv pc st0 := by
  intro H locs ls hP hD hS hl
  have hF := xfreeB hD hS C.al
  refine vx_calli (vx_runSX (As := As) (rest := st) C.call (M H.size) (xcwH C hm hk hd) ⟨xPre_blind, xprePreB C hP hD hS⟩ rfl hn (hl.1) hs (lv_room hcat) hdg hcs) hS (fun q _ h => hF q h) hF (fun q _ h => hF q h) (fun E ce q9 u t H1 locs1 ht hvm _ hB hz1 hk1 hS1 hce hcv hcl => ?_) (fun r9 u t H1 locs1 ht hvm hw9 hB hz1 hk1 hS1 => ?_)
  · exact absurd hB.1 (fun h => nomatch h)
  · obtain ⟨hP1, hD1⟩ := hB
    rw [ht] at hP1
    obtain ⟨hP2, hD2⟩ := xblk hP hD hk1 hF hP1 hD1
    obtain ⟨-, rfl⟩ := hw9
    exact kk H1 locs1 ls hP2 hD2 hS1 hl
end XH
def cd1 (thr : Option String) : Int32 := match thr with
  | none => 0
  | some _ => 1
def cd2 (E1 : String) (thr : Option String) : Int32 := match thr with
  | none => 0
  | some E => if E = E1 then 1 else 2
def wOl (tc : Nat → ClassId) (qo : Nat) (o : Nat → Int64) : va_W := [(qo, .inl (tc 1, 1, .inr (.inl o)))]
def wOd (tc : Nat → ClassId) (qd : Nat) (o : Nat → UInt64) : va_W := [(qd, .inl (tc 3, 1, .inr (.inr (.inr (.inl o)))))]
theorem or_c {E1 E2 : String} {x y : Option String} (hx : x = none ∨ x = some E1) (hy : y = none ∨ y = some E2) : x.or y = none ∨ x.or y = some E1 ∨ x.or y = some E2 := by
  rcases hx with rfl | rfl
  · rcases hy with rfl | rfl
    · exact Or.inl rfl
    · exact Or.inr (Or.inr rfl)
  · exact Or.inr (Or.inl rfl)
theorem ite_c {E : String} {q : Prop} [Decidable q] : (if q then some E else none) = none ∨ (if q then some E else none) = some E := by
  split
  · exact Or.inr rfl
  · exact Or.inl rfl
theorem thP_c (n : Nat) (x : Int32) : thP n x = none ∨ thP n x = some xIO := by
  rw [thP]
  split
  · exact Or.inl rfl
  · exact Or.inr rfl
theorem thK_c (x : Int32) : thK x = none ∨ thK x = some xIO := by rw [thK]; exact ite_c
theorem thR_c (r : Bool) : thR r = none ∨ thR r = some xIS := by
  rw [thR]
  split
  · exact Or.inl rfl
  · exact Or.inr rfl
theorem thI_c (r : Bool) (n : Nat) (x : Int32) : thI r n x = none ∨ thI r n x = some xIS ∨ thI r n x = some xIO := or_c (thR_c r) ite_c
theorem thF_c (x : Int64) (n : Nat) : thF x n = none ∨ thF x n = some xIA ∨ thF x n = some xIS := by
  rw [thF]
  split
  · exact Or.inr (Or.inl rfl)
  · split
    · exact Or.inl rfl
    · exact Or.inr (Or.inr rfl)
theorem set_c (n : Nat) (x y : Int32) : ((thP n x).or (if txB y = true then none else some xIA)) = none ∨ ((thP n x).or (if txB y = true then none else some xIA)) = some xIO ∨ ((thP n x).or (if txB y = true then none else some xIA)) = some xIA := by
  refine or_c (thP_c n x) ?_
  split
  · exact Or.inl rfl
  · exact Or.inr rfl
theorem thW_c (x y z : Int32) : thW x y z = none ∨ thW x y z = some xIO ∨ thW x y z = some xIA := by
  refine or_c (thK_c x) ?_
  split
  · exact Or.inr rfl
  · exact Or.inl rfl
theorem thS_c (x y : Int32) : thS x y = none ∨ thS x y = some xIO ∨ thS x y = some xIA := or_c (thK_c x) ite_c
theorem cnt_c (r : Bool) (x y : Int32) : ((thR r).or ((thK x).or (if (decide (y < 0) || !decide (y < 3)) = true then some xIO else none))) = none ∨ ((thR r).or ((thK x).or (if (decide (y < 0) || !decide (y < 3)) = true then some xIO else none))) = some xIS ∨ ((thR r).or ((thK x).or (if (decide (y < 0) || !decide (y < 3)) = true then some xIO else none))) = some xIO := by
  refine or_c (thR_c r) ?_
  rcases thK_c x with h | h
  · rw [h]
    exact ite_c
  · rw [h]
    exact Or.inr rfl
set_option maxHeartbeats 4000000 in
set_option maxRecDepth 100000 in
theorem h_feed (l : Launch) (hl9 : l.stackTraces = false) (G : va_G) (tc : Nat → ClassId) (a0 : Nat) (u : Nat → Nat → Nat) (S : CS) (hn : sN S ≤ 48) (x : Int64) (qo : Nat) (o : Nat → Int64) (thr : Option String) (hthr : (thF x (sN S)) = thr) : tIx l yL_feed (xwh yL_feed cL_feed 5 [(0, 9, 12, 13), (0, 9, 16, 15)]) 2 G tc [.ref a0, .long x, .ref qo] (wOl tc qo (o) ++ (wF tc a0 u (S) ++ [])) 1 none (wOl tc qo (o) ++ (wF tc a0 u (S) ++ [])) (cd2 xIA thr) (wOl tc qo (if thr = none then vp_updL o 0 ((nI (fdA x 8 (sB S) (sN S)).2).toInt64) else o) ++ (wF tc a0 u (if thr = none then oFeed x S else S) ++ [])) := by
  have hc := thF_c x (sN S)
  rw [hthr] at hc
  refine hI_of [some (.ref a0), some (.long x), none, some (.ref qo), none] 1 (by decide) (Nat.le_of_ble_eq_true rfl) rfl ?_
  intro p e s m args below meth c A C hT
  refine xaload_3 C dL_feed_0 ?_
  refine xiconst C (nI 0) dL_feed_1 (by decide) ?_
  refine xaload_0 C dL_feed_2 ?_
  refine xlload_1 C dL_feed_3 ?_
  refine xtry C hT (pre := wOl tc qo o) (post := []) m_X5_feed k_L_7 (f_feed l hl9 G tc a0 u S hn x) dL_feed_4 0 rfl rfl (by decide) rfl (Nat.le_of_ble_eq_true rfl) ⟨by decide, by decide⟩ (fun E q hE => ?_) (fun hN => ?_)
  · rw [hthr] at hE
    rcases hc with hc | hc | hc
    · rw [hE] at hc; cases hc
    · have hc2 := hE.symm.trans hc
      cases hc2
      refine ⟨12, ⟨[], ⟨0, 9, 12, 13⟩, [⟨0, 9, 16, 15⟩], rfl, fun z hz => absurd hz (List.not_mem_nil), by decide, by decide, in_wsL_law0_r5 _ (List.mem_of_getElem? (i := 13) rfl), List.mem_of_getElem? (i := 0) rfl, rfl⟩, ?_⟩
      refine xastore_4 C dL_feed_12 rfl (by decide) ?_
      refine xiconst C (1) dL_feed_14 (by decide) ?_
      exact xtiret C dL_feed_15 (by decide) (by decide) (by rw [hE]; rfl) rfl (by rw [hE, if_neg (fun h => nomatch h), if_neg (fun h => nomatch h)])
    · have hc2 := hE.symm.trans hc
      cases hc2
      refine ⟨16, ⟨[⟨0, 9, 12, 13⟩], ⟨0, 9, 16, 15⟩, [], rfl, fun z hz => by rw [List.mem_singleton.mp hz]; exact ⟨by decide, _, in_wsL_law0_r5 _ (List.mem_of_getElem? (i := 13) rfl), List.mem_of_getElem? (i := 2) rfl⟩, by decide, by decide, in_wsL_law0_r5 _ (List.mem_of_getElem? (i := 14) rfl), List.mem_of_getElem? (i := 1) rfl, rfl⟩, ?_⟩
      refine xastore_4 C dL_feed_16 rfl (by decide) ?_
      refine xiconst C (2) dL_feed_18 (by decide) ?_
      exact xtiret C dL_feed_19 (by decide) (by decide) (by rw [hE]; rfl) rfl (by rw [hE, if_neg (fun h => nomatch h), if_neg (fun h => nomatch h)])
  · rw [hthr] at hN
    refine xi2l C dL_feed_7 ?_
    refine xlastN C 0 0 (wOl tc qo (vp_updL o 0 ((nI (fdA x 8 (sB S) (sN S)).2).toInt64)) ++ (wF tc a0 u (oFeed x S) ++ [])) dL_feed_8 rfl (by decide) rfl (by decide) rfl ?_
    refine xgoto C (tgt := 20) dL_feed_9 (by decide) ?_
    refine xiconst C (0) dL_feed_20 (by decide) ?_
    exact xtiret C dL_feed_21 (by decide) (by decide) (by rw [hN]; rfl) rfl (by rw [if_pos hN, if_pos hN])
set_option maxHeartbeats 4000000 in
set_option maxRecDepth 100000 in
theorem h_cut (l : Launch) (hl9 : l.stackTraces = false) (G : va_G) (tc : Nat → ClassId) (a0 : Nat) (u : Nat → Nat → Nat) (S : CS) (hn : sN S ≤ 48) (x : Int32) (qo : Nat) (o : Nat → Int64) (thr : Option String) (hthr : (if (decide (x < 0) || !decide (x ≤ nI (sN S))) = true then some xIA else none) = thr) : tIx l yL_cut (xwh yL_cut cL_cut 4 [(0, 9, 12, 13)]) 2 G tc [.ref a0, .int x, .ref qo] (wOl tc qo (o) ++ (wF tc a0 u (S) ++ [])) 1 none (wOl tc qo (o) ++ (wF tc a0 u (S) ++ [])) (cd1 thr) (wOl tc qo (if thr = none then vp_updL o 0 ((nI (sN S - x.toNatClampNeg)).toInt64) else o) ++ (wF tc a0 u (if thr = none then oCut x S else S) ++ [])) := by
  have hc := ite_c (E := xIA) (q := (decide (x < 0) || !decide (x ≤ nI (sN S))) = true)
  rw [hthr] at hc
  refine hI_of [some (.ref a0), some (.int x), some (.ref qo), none] 1 (by decide) (Nat.le_of_ble_eq_true rfl) rfl ?_
  intro p e s m args below meth c A C hT
  refine xaload_2 C dL_cut_0 ?_
  refine xiconst C (nI 0) dL_cut_1 (by decide) ?_
  refine xaload_0 C dL_cut_2 ?_
  refine xiload_1 C dL_cut_3 ?_
  refine xtry C hT (pre := wOl tc qo o) (post := []) m_X5_cut k_L_17 (f_cut l hl9 G tc a0 u S hn x) dL_cut_4 0 rfl rfl (by decide) rfl (Nat.le_of_ble_eq_true rfl) ⟨by decide, by decide⟩ (fun E q hE => ?_) (fun hN => ?_)
  · rw [hthr] at hE
    rcases hc with hc | hc
    · rw [hE] at hc; cases hc
    · have hc2 := hE.symm.trans hc
      cases hc2
      refine ⟨12, ⟨[], ⟨0, 9, 12, 13⟩, [], rfl, fun z hz => absurd hz (List.not_mem_nil), by decide, by decide, in_wsL_law0_r5 _ (List.mem_of_getElem? (i := 13) rfl), List.mem_of_getElem? (i := 0) rfl, rfl⟩, ?_⟩
      refine xastore_3 C dL_cut_12 rfl (by decide) ?_
      refine xiconst C (1) dL_cut_13 (by decide) ?_
      exact xtiret C dL_cut_14 (by decide) (by decide) (by rw [hE]; rfl) rfl (by rw [hE, if_neg (fun h => nomatch h), if_neg (fun h => nomatch h)])
  · rw [hthr] at hN
    refine xi2l C dL_cut_7 ?_
    refine xlastN C 0 0 (wOl tc qo (vp_updL o 0 ((nI (sN S - x.toNatClampNeg)).toInt64)) ++ (wF tc a0 u (oCut x S) ++ [])) dL_cut_8 rfl (by decide) rfl (by decide) rfl ?_
    refine xgoto C (tgt := 15) dL_cut_9 (by decide) ?_
    refine xiconst C (0) dL_cut_15 (by decide) ?_
    exact xtiret C dL_cut_16 (by decide) (by decide) (by rw [hN]; rfl) rfl (by rw [if_pos hN, if_pos hN])
set_option maxHeartbeats 4000000 in
set_option maxRecDepth 100000 in
theorem h_set (l : Launch) (hl9 : l.stackTraces = false) (G : va_G) (tc : Nat → ClassId) (a0 : Nat) (u : Nat → Nat → Nat) (S : CS) (hn : sN S ≤ 48) (x : Int32) (y : Int32) (qo : Nat) (o : Nat → Int64) (thr : Option String) (hthr : ((thP (sN S) x).or (if txB y = true then none else some xIA)) = thr) : tIx l yL_set (xwh yL_set cL_set 5 [(0, 10, 13, 25), (0, 10, 17, 13)]) 3 G tc [.ref a0, .int x, .int y, .ref qo] (wOl tc qo (o) ++ (wF tc a0 u (S) ++ [])) 2 none (wOl tc qo (o) ++ (wF tc a0 u (S) ++ [])) (cd2 xIO thr) (wOl tc qo (if thr = none then vp_updL o 0 ((sB S x.toNatClampNeg).toInt64) else o) ++ (wF tc a0 u (if thr = none then oSet x y S else S) ++ [])) := by
  have hc := set_c (sN S) x y
  rw [hthr] at hc
  refine hI_of [some (.ref a0), some (.int x), some (.int y), some (.ref qo), none] 1 (by decide) (Nat.le_of_ble_eq_true rfl) rfl ?_
  intro p e s m args below meth c A C hT
  refine xaload_3 C dL_set_0 ?_
  refine xiconst C (nI 0) dL_set_1 (by decide) ?_
  refine xaload_0 C dL_set_2 ?_
  refine xiload_1 C dL_set_3 ?_
  refine xiload_2 C dL_set_4 ?_
  refine xtry C hT (pre := wOl tc qo o) (post := []) m_X5_set k_L_21 (f_set l hl9 G tc a0 u S hn x y) dL_set_5 0 rfl rfl (by decide) rfl (Nat.le_of_ble_eq_true rfl) ⟨by decide, by decide⟩ (fun E q hE => ?_) (fun hN => ?_)
  · rw [hthr] at hE
    rcases hc with hc | hc | hc
    · rw [hE] at hc; cases hc
    · have hc2 := hE.symm.trans hc
      cases hc2
      refine ⟨13, ⟨[], ⟨0, 10, 13, 25⟩, [⟨0, 10, 17, 13⟩], rfl, fun z hz => absurd hz (List.not_mem_nil), by decide, by decide, in_wsL_law0_r7 _ (List.mem_of_getElem? (i := 23) rfl), List.mem_of_getElem? (i := 2) rfl, rfl⟩, ?_⟩
      refine xastore_4 C dL_set_13 rfl (by decide) ?_
      refine xiconst C (1) dL_set_15 (by decide) ?_
      exact xtiret C dL_set_16 (by decide) (by decide) (by rw [hE]; rfl) rfl (by rw [hE, if_neg (fun h => nomatch h), if_neg (fun h => nomatch h)])
    · have hc2 := hE.symm.trans hc
      cases hc2
      refine ⟨17, ⟨[⟨0, 10, 13, 25⟩], ⟨0, 10, 17, 13⟩, [], rfl, fun z hz => by rw [List.mem_singleton.mp hz]; exact ⟨by decide, _, in_wsL_law0_r7 _ (List.mem_of_getElem? (i := 23) rfl), List.mem_of_getElem? (i := 1) rfl⟩, by decide, by decide, in_wsL_law0_r5 _ (List.mem_of_getElem? (i := 13) rfl), List.mem_of_getElem? (i := 0) rfl, rfl⟩, ?_⟩
      refine xastore_4 C dL_set_17 rfl (by decide) ?_
      refine xiconst C (2) dL_set_19 (by decide) ?_
      exact xtiret C dL_set_20 (by decide) (by decide) (by rw [hE]; rfl) rfl (by rw [hE, if_neg (fun h => nomatch h), if_neg (fun h => nomatch h)])
  · rw [hthr] at hN
    refine xi2l C dL_set_8 ?_
    refine xlastN C 0 0 (wOl tc qo (vp_updL o 0 ((sB S x.toNatClampNeg).toInt64)) ++ (wF tc a0 u (oSet x y S) ++ [])) dL_set_9 rfl (by decide) rfl (by decide) rfl ?_
    refine xgoto C (tgt := 21) dL_set_10 (by decide) ?_
    refine xiconst C (0) dL_set_21 (by decide) ?_
    exact xtiret C dL_set_22 (by decide) (by decide) (by rw [hN]; rfl) rfl (by rw [if_pos hN, if_pos hN])
set_option maxHeartbeats 4000000 in
set_option maxRecDepth 100000 in
theorem h_byteAt (l : Launch) (hl9 : l.stackTraces = false) (G : va_G) (tc : Nat → ClassId) (a0 : Nat) (u : Nat → Nat → Nat) (S : CS) (hn : sN S ≤ 48) (x : Int32) (qo : Nat) (o : Nat → Int64) (thr : Option String) (hthr : (thP (sN S) x) = thr) : tIx l yL_byteAt (xwh yL_byteAt cL_byteAt 4 [(0, 9, 12, 25)]) 3 G tc [.ref a0, .int x, .ref qo] (wOl tc qo (o) ++ (wF tc a0 u (S) ++ [])) 1 none (wOl tc qo (o) ++ (wF tc a0 u (S) ++ [])) (cd1 thr) (wOl tc qo (if thr = none then vp_updL o 0 ((sB S x.toNatClampNeg).toInt64) else o) ++ (wF tc a0 u (if thr = none then S else S) ++ [])) := by
  have hc := thP_c (sN S) x
  rw [hthr] at hc
  refine hI_of [some (.ref a0), some (.int x), some (.ref qo), none] 1 (by decide) (Nat.le_of_ble_eq_true rfl) rfl ?_
  intro p e s m args below meth c A C hT
  refine xaload_2 C dL_byteAt_0 ?_
  refine xiconst C (nI 0) dL_byteAt_1 (by decide) ?_
  refine xaload_0 C dL_byteAt_2 ?_
  refine xiload_1 C dL_byteAt_3 ?_
  refine xtry C hT (pre := wOl tc qo o) (post := []) m_X5_byteAt k_L_27 (f_byteAt l hl9 G tc a0 u S hn x) dL_byteAt_4 0 rfl rfl (by decide) rfl (Nat.le_of_ble_eq_true rfl) ⟨by decide, by decide⟩ (fun E q hE => ?_) (fun hN => ?_)
  · rw [hthr] at hE
    rcases hc with hc | hc
    · rw [hE] at hc; cases hc
    · have hc2 := hE.symm.trans hc
      cases hc2
      refine ⟨12, ⟨[], ⟨0, 9, 12, 25⟩, [], rfl, fun z hz => absurd hz (List.not_mem_nil), by decide, by decide, in_wsL_law0_r7 _ (List.mem_of_getElem? (i := 23) rfl), List.mem_of_getElem? (i := 2) rfl, rfl⟩, ?_⟩
      refine xastore_3 C dL_byteAt_12 rfl (by decide) ?_
      refine xiconst C (1) dL_byteAt_13 (by decide) ?_
      exact xtiret C dL_byteAt_14 (by decide) (by decide) (by rw [hE]; rfl) rfl (by rw [hE, if_neg (fun h => nomatch h), if_neg (fun h => nomatch h)])
  · rw [hthr] at hN
    refine xi2l C dL_byteAt_7 ?_
    refine xlastN C 0 0 (wOl tc qo (vp_updL o 0 ((sB S x.toNatClampNeg).toInt64)) ++ (wF tc a0 u (S) ++ [])) dL_byteAt_8 rfl (by decide) rfl (by decide) rfl ?_
    refine xgoto C (tgt := 15) dL_byteAt_9 (by decide) ?_
    refine xiconst C (0) dL_byteAt_15 (by decide) ?_
    exact xtiret C dL_byteAt_16 (by decide) (by decide) (by rw [hN]; rfl) rfl (by rw [if_pos hN, if_pos hN])
set_option maxHeartbeats 4000000 in
set_option maxRecDepth 100000 in
theorem h_setEscape (l : Launch) (hl9 : l.stackTraces = false) (G : va_G) (tc : Nat → ClassId) (a0 : Nat) (u : Nat → Nat → Nat) (S : CS) (x : Int32) (qo : Nat) (o : Nat → Int64) (thr : Option String) (hthr : (if (!decide (x = -1) && !txB x) = true then some xIA else none) = thr) : tIx l yL_setEscape (xwh yL_setEscape cL_setEscape 4 [(0, 9, 12, 13)]) 2 G tc [.ref a0, .int x, .ref qo] (wOl tc qo (o) ++ (wF tc a0 u (S) ++ [])) 1 none (wOl tc qo (o) ++ (wF tc a0 u (S) ++ [])) (cd1 thr) (wOl tc qo (if thr = none then vp_updL o 0 ((sE S).toInt64) else o) ++ (wF tc a0 u (if thr = none then oEsc x S else S) ++ [])) := by
  have hc := ite_c (E := xIA) (q := (!decide (x = -1) && !txB x) = true)
  rw [hthr] at hc
  refine hI_of [some (.ref a0), some (.int x), some (.ref qo), none] 1 (by decide) (Nat.le_of_ble_eq_true rfl) rfl ?_
  intro p e s m args below meth c A C hT
  refine xaload_2 C dL_setEscape_0 ?_
  refine xiconst C (nI 0) dL_setEscape_1 (by decide) ?_
  refine xaload_0 C dL_setEscape_2 ?_
  refine xiload_1 C dL_setEscape_3 ?_
  refine xtry C hT (pre := wOl tc qo o) (post := []) m_X5_setEscape k_L_30 (f_setEscape l hl9 G tc a0 u S x) dL_setEscape_4 0 rfl rfl (by decide) rfl (Nat.le_of_ble_eq_true rfl) ⟨by decide, by decide⟩ (fun E q hE => ?_) (fun hN => ?_)
  · rw [hthr] at hE
    rcases hc with hc | hc
    · rw [hE] at hc; cases hc
    · have hc2 := hE.symm.trans hc
      cases hc2
      refine ⟨12, ⟨[], ⟨0, 9, 12, 13⟩, [], rfl, fun z hz => absurd hz (List.not_mem_nil), by decide, by decide, in_wsL_law0_r5 _ (List.mem_of_getElem? (i := 13) rfl), List.mem_of_getElem? (i := 0) rfl, rfl⟩, ?_⟩
      refine xastore_3 C dL_setEscape_12 rfl (by decide) ?_
      refine xiconst C (1) dL_setEscape_13 (by decide) ?_
      exact xtiret C dL_setEscape_14 (by decide) (by decide) (by rw [hE]; rfl) rfl (by rw [hE, if_neg (fun h => nomatch h), if_neg (fun h => nomatch h)])
  · rw [hthr] at hN
    refine xi2l C dL_setEscape_7 ?_
    refine xlastN C 0 0 (wOl tc qo (vp_updL o 0 ((sE S).toInt64)) ++ (wF tc a0 u (oEsc x S) ++ [])) dL_setEscape_8 rfl (by decide) rfl (by decide) rfl ?_
    refine xgoto C (tgt := 15) dL_setEscape_9 (by decide) ?_
    refine xiconst C (0) dL_setEscape_15 (by decide) ?_
    exact xtiret C dL_setEscape_16 (by decide) (by decide) (by rw [hN]; rfl) rfl (by rw [if_pos hN, if_pos hN])
set_option maxHeartbeats 4000000 in
set_option maxRecDepth 100000 in
theorem h_setWord (l : Launch) (hl9 : l.stackTraces = false) (G : va_G) (tc : Nat → ClassId) (a0 : Nat) (u : Nat → Nat → Nat) (S : CS) (x : Int32) (v : Bool) (y : Int32) (z : Int32) (qo : Nat) (o : Nat → Int64) (thr : Option String) (hthr : (thW x y z) = thr) : tIx l yL_setWord (xwh yL_setWord cL_setWord 7 [(0, 21, 24, 25), (0, 21, 28, 13)]) 2 G tc [.ref a0, .int x, .int (bI v), .int y, .int z, .ref qo] (wOl tc qo (o) ++ (wF tc a0 u (S) ++ [])) 2 none (wOl tc qo (o) ++ (wF tc a0 u (S) ++ [])) (cd2 xIO thr) (wOl tc qo (if thr = none then vp_updL o 0 ((bI (cpl (sO (oWord x v y z S)) (sC (oWord x v y z S)) x)).toInt64) else o) ++ (wF tc a0 u (if thr = none then oWord x v y z S else S) ++ [])) := by
  have hc := thW_c x y z
  rw [hthr] at hc
  refine hI_of [some (.ref a0), some (.int x), some (.int (bI v)), some (.int y), some (.int z), some (.ref qo), none] 1 (by decide) (Nat.le_of_ble_eq_true rfl) rfl ?_
  intro p e s m args below meth c A C hT
  refine xaload_5 C dL_setWord_0 ?_
  refine xiconst C (nI 0) dL_setWord_2 (by decide) ?_
  refine xaload_0 C dL_setWord_3 ?_
  refine xiload_1 C dL_setWord_4 ?_
  refine xiload_2 C dL_setWord_5 ?_
  refine xiload_3 C dL_setWord_6 ?_
  refine xiload_4 C dL_setWord_7 ?_
  refine xtry C hT (pre := wOl tc qo o) (post := []) m_X5_setWord k_L_33 (f_setWord l hl9 G tc a0 u S x v y z) dL_setWord_9 0 rfl rfl (by decide) rfl (Nat.le_of_ble_eq_true rfl) ⟨by decide, by decide⟩ (fun E q hE => ?_) (fun hN => ?_)
  · rw [hthr] at hE
    rcases hc with hc | hc | hc
    · rw [hE] at hc; cases hc
    · have hc2 := hE.symm.trans hc
      cases hc2
      refine ⟨24, ⟨[], ⟨0, 21, 24, 25⟩, [⟨0, 21, 28, 13⟩], rfl, fun z hz => absurd hz (List.not_mem_nil), by decide, by decide, in_wsL_law0_r7 _ (List.mem_of_getElem? (i := 23) rfl), List.mem_of_getElem? (i := 2) rfl, rfl⟩, ?_⟩
      refine xastore_6 C dL_setWord_24 rfl (by decide) ?_
      refine xiconst C (1) dL_setWord_26 (by decide) ?_
      exact xtiret C dL_setWord_27 (by decide) (by decide) (by rw [hE]; rfl) rfl (by rw [hE, if_neg (fun h => nomatch h), if_neg (fun h => nomatch h)])
    · have hc2 := hE.symm.trans hc
      cases hc2
      refine ⟨28, ⟨[⟨0, 21, 24, 25⟩], ⟨0, 21, 28, 13⟩, [], rfl, fun z hz => by rw [List.mem_singleton.mp hz]; exact ⟨by decide, _, in_wsL_law0_r7 _ (List.mem_of_getElem? (i := 23) rfl), List.mem_of_getElem? (i := 1) rfl⟩, by decide, by decide, in_wsL_law0_r5 _ (List.mem_of_getElem? (i := 13) rfl), List.mem_of_getElem? (i := 0) rfl, rfl⟩, ?_⟩
      refine xastore_6 C dL_setWord_28 rfl (by decide) ?_
      refine xiconst C (2) dL_setWord_30 (by decide) ?_
      exact xtiret C dL_setWord_31 (by decide) (by decide) (by rw [hE]; rfl) rfl (by rw [hE, if_neg (fun h => nomatch h), if_neg (fun h => nomatch h)])
  · rw [hthr] at hN
    refine xif_eq C (tgt := 19) dL_setWord_12 (by decide) (fun h12 => ?_) (fun h12 => ?_)
    · have h12 := bI0 h12
      refine xlconst C (0) dL_setWord_19 (by decide) ?_
      refine xlastN C 0 0 (wOl tc qo (vp_updL o 0 ((bI (cpl (sO (oWord x v y z S)) (sC (oWord x v y z S)) x)).toInt64)) ++ (wF tc a0 u (oWord x v y z S) ++ [])) dL_setWord_20 rfl (by decide) rfl (by decide) (by rw [h12]; rfl) ?_
      refine xgoto C (tgt := 32) dL_setWord_21 (by decide) ?_
      refine xiconst C (0) dL_setWord_32 (by decide) ?_
      exact xtiret C dL_setWord_33 (by decide) (by decide) (by rw [hN]; rfl) rfl (by rw [if_pos hN, if_pos hN])
    · have h12 := bI1 h12
      refine xlconst C (1) dL_setWord_15 (by decide) ?_
      refine xgoto C (tgt := 20) dL_setWord_16 (by decide) ?_
      refine xlastN C 0 0 (wOl tc qo (vp_updL o 0 ((bI (cpl (sO (oWord x v y z S)) (sC (oWord x v y z S)) x)).toInt64)) ++ (wF tc a0 u (oWord x v y z S) ++ [])) dL_setWord_20 rfl (by decide) rfl (by decide) (by rw [h12]; rfl) ?_
      refine xgoto C (tgt := 32) dL_setWord_21 (by decide) ?_
      refine xiconst C (0) dL_setWord_32 (by decide) ?_
      exact xtiret C dL_setWord_33 (by decide) (by decide) (by rw [hN]; rfl) rfl (by rw [if_pos hN, if_pos hN])
set_option maxHeartbeats 4000000 in
set_option maxRecDepth 100000 in
theorem h_setKind (l : Launch) (hl9 : l.stackTraces = false) (G : va_G) (tc : Nat → ClassId) (a0 : Nat) (u : Nat → Nat → Nat) (S : CS) (x : Int32) (v1 : Bool) (v2 : Bool) (y : Int32) (qo : Nat) (o : Nat → Int64) (thr : Option String) (hthr : (thS x y) = thr) : tIx l yL_setKind (xwh yL_setKind cL_setKind 7 [(0, 14, 17, 25), (0, 14, 21, 13)]) 2 G tc [.ref a0, .int x, .int (bI v1), .int (bI v2), .int y, .ref qo] (wOl tc qo (o) ++ (wF tc a0 u (S) ++ [])) 2 none (wOl tc qo (o) ++ (wF tc a0 u (S) ++ [])) (cd2 xIO thr) (wOl tc qo (if thr = none then vp_updL o 0 ((sJ S x.toNatClampNeg).toInt64) else o) ++ (wF tc a0 u (if thr = none then oKind x v1 v2 y S else S) ++ [])) := by
  have hc := thS_c x y
  rw [hthr] at hc
  refine hI_of [some (.ref a0), some (.int x), some (.int (bI v1)), some (.int (bI v2)), some (.int y), some (.ref qo), none] 1 (by decide) (Nat.le_of_ble_eq_true rfl) rfl ?_
  intro p e s m args below meth c A C hT
  refine xaload_5 C dL_setKind_0 ?_
  refine xiconst C (nI 0) dL_setKind_2 (by decide) ?_
  refine xaload_0 C dL_setKind_3 ?_
  refine xiload_1 C dL_setKind_4 ?_
  refine xiload_2 C dL_setKind_5 ?_
  refine xiload_3 C dL_setKind_6 ?_
  refine xiload_4 C dL_setKind_7 ?_
  refine xtry C hT (pre := wOl tc qo o) (post := []) m_X5_setKind k_L_37 (f_setKind l hl9 G tc a0 u S x v1 v2 y) dL_setKind_9 0 rfl rfl (by decide) rfl (Nat.le_of_ble_eq_true rfl) ⟨by decide, by decide⟩ (fun E q hE => ?_) (fun hN => ?_)
  · rw [hthr] at hE
    rcases hc with hc | hc | hc
    · rw [hE] at hc; cases hc
    · have hc2 := hE.symm.trans hc
      cases hc2
      refine ⟨17, ⟨[], ⟨0, 14, 17, 25⟩, [⟨0, 14, 21, 13⟩], rfl, fun z hz => absurd hz (List.not_mem_nil), by decide, by decide, in_wsL_law0_r7 _ (List.mem_of_getElem? (i := 23) rfl), List.mem_of_getElem? (i := 2) rfl, rfl⟩, ?_⟩
      refine xastore_6 C dL_setKind_17 rfl (by decide) ?_
      refine xiconst C (1) dL_setKind_19 (by decide) ?_
      exact xtiret C dL_setKind_20 (by decide) (by decide) (by rw [hE]; rfl) rfl (by rw [hE, if_neg (fun h => nomatch h), if_neg (fun h => nomatch h)])
    · have hc2 := hE.symm.trans hc
      cases hc2
      refine ⟨21, ⟨[⟨0, 14, 17, 25⟩], ⟨0, 14, 21, 13⟩, [], rfl, fun z hz => by rw [List.mem_singleton.mp hz]; exact ⟨by decide, _, in_wsL_law0_r7 _ (List.mem_of_getElem? (i := 23) rfl), List.mem_of_getElem? (i := 1) rfl⟩, by decide, by decide, in_wsL_law0_r5 _ (List.mem_of_getElem? (i := 13) rfl), List.mem_of_getElem? (i := 0) rfl, rfl⟩, ?_⟩
      refine xastore_6 C dL_setKind_21 rfl (by decide) ?_
      refine xiconst C (2) dL_setKind_23 (by decide) ?_
      exact xtiret C dL_setKind_24 (by decide) (by decide) (by rw [hE]; rfl) rfl (by rw [hE, if_neg (fun h => nomatch h), if_neg (fun h => nomatch h)])
  · rw [hthr] at hN
    refine xi2l C dL_setKind_12 ?_
    refine xlastN C 0 0 (wOl tc qo (vp_updL o 0 ((sJ S x.toNatClampNeg).toInt64)) ++ (wF tc a0 u (oKind x v1 v2 y S) ++ [])) dL_setKind_13 rfl (by decide) rfl (by decide) rfl ?_
    refine xgoto C (tgt := 25) dL_setKind_14 (by decide) ?_
    refine xiconst C (0) dL_setKind_25 (by decide) ?_
    exact xtiret C dL_setKind_26 (by decide) (by decide) (by rw [hN]; rfl) rfl (by rw [if_pos hN, if_pos hN])
set_option maxHeartbeats 4000000 in
set_option maxRecDepth 100000 in
theorem h_mark (l : Launch) (hl9 : l.stackTraces = false) (G : va_G) (tc : Nat → ClassId) (a0 : Nat) (u : Nat → Nat → Nat) (S : CS) (hn : sN S ≤ 48) (hrm : (oMk S).2.2.2.2 ≤ 48) (x : Int32) (qo : Nat) (o : Nat → Int64) (thr : Option String) (hthr : (if (decide (x < 0) || !decide (x < nI (oMk S).2.2.2.2)) = true then some xIO else none) = thr) : tIx l yL_mark (xwh yL_mark cL_mark 4 [(0, 9, 12, 25)]) 6 G tc [.ref a0, .int x, .ref qo] (wOl tc qo (o) ++ (wF tc a0 u (S) ++ [])) 1 none (wOl tc qo (o) ++ (wF tc a0 u (S) ++ [])) (cd1 thr) (wOl tc qo (if thr = none then vp_updL o 0 (((oMk S).1 x.toNatClampNeg).toInt64) else o) ++ (wF tc a0 u (if thr = none then oMark S else oMark S) ++ [])) := by
  have hc := ite_c (E := xIO) (q := (decide (x < 0) || !decide (x < nI (oMk S).2.2.2.2)) = true)
  rw [hthr] at hc
  refine hI_of [some (.ref a0), some (.int x), some (.ref qo), none] 1 (by decide) (Nat.le_of_ble_eq_true rfl) rfl ?_
  intro p e s m args below meth c A C hT
  refine xaload_2 C dL_mark_0 ?_
  refine xiconst C (nI 0) dL_mark_1 (by decide) ?_
  refine xaload_0 C dL_mark_2 ?_
  refine xiload_1 C dL_mark_3 ?_
  refine xtry C hT (pre := wOl tc qo o) (post := []) m_X5_mark k_L_41 (f_mark l hl9 G tc a0 u S hn hrm x) dL_mark_4 0 rfl rfl (by decide) rfl (Nat.le_of_ble_eq_true rfl) ⟨by decide, by decide⟩ (fun E q hE => ?_) (fun hN => ?_)
  · rw [hthr] at hE
    rcases hc with hc | hc
    · rw [hE] at hc; cases hc
    · have hc2 := hE.symm.trans hc
      cases hc2
      refine ⟨12, ⟨[], ⟨0, 9, 12, 25⟩, [], rfl, fun z hz => absurd hz (List.not_mem_nil), by decide, by decide, in_wsL_law0_r7 _ (List.mem_of_getElem? (i := 23) rfl), List.mem_of_getElem? (i := 2) rfl, rfl⟩, ?_⟩
      refine xastore_3 C dL_mark_12 rfl (by decide) ?_
      refine xiconst C (1) dL_mark_13 (by decide) ?_
      exact xtiret C dL_mark_14 (by decide) (by decide) (by rw [hE]; rfl) rfl (by rw [hE, if_neg (fun h => nomatch h), if_neg (fun h => nomatch h)])
  · rw [hthr] at hN
    refine xi2l C dL_mark_7 ?_
    refine xlastN C 0 0 (wOl tc qo (vp_updL o 0 (((oMk S).1 x.toNatClampNeg).toInt64)) ++ (wF tc a0 u (oMark S) ++ [])) dL_mark_8 rfl (by decide) rfl (by decide) rfl ?_
    refine xgoto C (tgt := 15) dL_mark_9 (by decide) ?_
    refine xiconst C (0) dL_mark_15 (by decide) ?_
    exact xtiret C dL_mark_16 (by decide) (by decide) (by rw [hN]; rfl) rfl (by rw [if_pos hN, if_pos hN])
set_option maxHeartbeats 4000000 in
set_option maxRecDepth 100000 in
theorem h_islandCount (l : Launch) (hl9 : l.stackTraces = false) (G : va_G) (tc : Nat → ClassId) (a0 : Nat) (u : Nat → Nat → Nat) (S : CS)  (qo : Nat) (o : Nat → Int64) (thr : Option String) (hthr : (thR (iR (sI S))) = thr) : tIx l yL_islandCount (xwh yL_islandCount cL_islandCount 3 [(0, 8, 11, 15)]) 2 G tc [.ref a0, .ref qo] (wOl tc qo (o) ++ (wF tc a0 u (S) ++ [])) 1 none (wOl tc qo (o) ++ (wF tc a0 u (S) ++ [])) (cd1 thr) (wOl tc qo (if thr = none then vp_updL o 0 ((nI (iM (sI S))).toInt64) else o) ++ (wF tc a0 u (if thr = none then S else S) ++ [])) := by
  have hc := thR_c (iR (sI S))
  rw [hthr] at hc
  refine hI_of [some (.ref a0), some (.ref qo), none] 1 (by decide) (Nat.le_of_ble_eq_true rfl) rfl ?_
  intro p e s m args below meth c A C hT
  refine xaload_1 C dL_islandCount_0 ?_
  refine xiconst C (nI 0) dL_islandCount_1 (by decide) ?_
  refine xaload_0 C dL_islandCount_2 ?_
  refine xtry C hT (pre := wOl tc qo o) (post := []) m_X5_islandCount k_L_44 (f_islandCount l hl9 G tc a0 u S ) dL_islandCount_3 0 rfl rfl (by decide) rfl (Nat.le_of_ble_eq_true rfl) ⟨by decide, by decide⟩ (fun E q hE => ?_) (fun hN => ?_)
  · rw [hthr] at hE
    rcases hc with hc | hc
    · rw [hE] at hc; cases hc
    · have hc2 := hE.symm.trans hc
      cases hc2
      refine ⟨11, ⟨[], ⟨0, 8, 11, 15⟩, [], rfl, fun z hz => absurd hz (List.not_mem_nil), by decide, by decide, in_wsL_law0_r5 _ (List.mem_of_getElem? (i := 14) rfl), List.mem_of_getElem? (i := 1) rfl, rfl⟩, ?_⟩
      refine xastore_2 C dL_islandCount_11 rfl (by decide) ?_
      refine xiconst C (1) dL_islandCount_12 (by decide) ?_
      exact xtiret C dL_islandCount_13 (by decide) (by decide) (by rw [hE]; rfl) rfl (by rw [hE, if_neg (fun h => nomatch h), if_neg (fun h => nomatch h)])
  · rw [hthr] at hN
    refine xi2l C dL_islandCount_6 ?_
    refine xlastN C 0 0 (wOl tc qo (vp_updL o 0 ((nI (iM (sI S))).toInt64)) ++ (wF tc a0 u (S) ++ [])) dL_islandCount_7 rfl (by decide) rfl (by decide) rfl ?_
    refine xgoto C (tgt := 14) dL_islandCount_8 (by decide) ?_
    refine xiconst C (0) dL_islandCount_14 (by decide) ?_
    exact xtiret C dL_islandCount_15 (by decide) (by decide) (by rw [hN]; rfl) rfl (by rw [if_pos hN, if_pos hN])
set_option maxHeartbeats 4000000 in
set_option maxRecDepth 100000 in
theorem h_kind (l : Launch) (hl9 : l.stackTraces = false) (G : va_G) (tc : Nat → ClassId) (a0 : Nat) (u : Nat → Nat → Nat) (S : CS) (hm : iM (sI S) ≤ 48) (x : Int32) (qo : Nat) (o : Nat → Int64) (thr : Option String) (hthr : (thI (iR (sI S)) (iM (sI S)) x) = thr) : tIx l yL_kind (xwh yL_kind cL_kind 4 [(0, 9, 12, 15), (0, 9, 15, 25)]) 3 G tc [.ref a0, .int x, .ref qo] (wOl tc qo (o) ++ (wF tc a0 u (S) ++ [])) 2 none (wOl tc qo (o) ++ (wF tc a0 u (S) ++ [])) (cd2 xIS thr) (wOl tc qo (if thr = none then vp_updL o 0 ((iK (sI S) x.toNatClampNeg).toInt64) else o) ++ (wF tc a0 u (if thr = none then S else S) ++ [])) := by
  have hc := thI_c (iR (sI S)) (iM (sI S)) x
  rw [hthr] at hc
  refine hI_of [some (.ref a0), some (.int x), some (.ref qo), none] 1 (by decide) (Nat.le_of_ble_eq_true rfl) rfl ?_
  intro p e s m args below meth c A C hT
  refine xaload_2 C dL_kind_0 ?_
  refine xiconst C (nI 0) dL_kind_1 (by decide) ?_
  refine xaload_0 C dL_kind_2 ?_
  refine xiload_1 C dL_kind_3 ?_
  refine xtry C hT (pre := wOl tc qo o) (post := []) m_X5_kind k_L_48 (f_kind l hl9 G tc a0 u S hm x) dL_kind_4 0 rfl rfl (by decide) rfl (Nat.le_of_ble_eq_true rfl) ⟨by decide, by decide⟩ (fun E q hE => ?_) (fun hN => ?_)
  · rw [hthr] at hE
    rcases hc with hc | hc | hc
    · rw [hE] at hc; cases hc
    · have hc2 := hE.symm.trans hc
      cases hc2
      refine ⟨12, ⟨[], ⟨0, 9, 12, 15⟩, [⟨0, 9, 15, 25⟩], rfl, fun z hz => absurd hz (List.not_mem_nil), by decide, by decide, in_wsL_law0_r5 _ (List.mem_of_getElem? (i := 14) rfl), List.mem_of_getElem? (i := 1) rfl, rfl⟩, ?_⟩
      refine xastore_3 C dL_kind_12 rfl (by decide) ?_
      refine xiconst C (1) dL_kind_13 (by decide) ?_
      exact xtiret C dL_kind_14 (by decide) (by decide) (by rw [hE]; rfl) rfl (by rw [hE, if_neg (fun h => nomatch h), if_neg (fun h => nomatch h)])
    · have hc2 := hE.symm.trans hc
      cases hc2
      refine ⟨15, ⟨[⟨0, 9, 12, 15⟩], ⟨0, 9, 15, 25⟩, [], rfl, fun z hz => by rw [List.mem_singleton.mp hz]; exact ⟨by decide, _, in_wsL_law0_r5 _ (List.mem_of_getElem? (i := 14) rfl), List.mem_of_getElem? (i := 5) rfl⟩, by decide, by decide, in_wsL_law0_r7 _ (List.mem_of_getElem? (i := 23) rfl), List.mem_of_getElem? (i := 2) rfl, rfl⟩, ?_⟩
      refine xastore_3 C dL_kind_15 rfl (by decide) ?_
      refine xiconst C (2) dL_kind_16 (by decide) ?_
      exact xtiret C dL_kind_17 (by decide) (by decide) (by rw [hE]; rfl) rfl (by rw [hE, if_neg (fun h => nomatch h), if_neg (fun h => nomatch h)])
  · rw [hthr] at hN
    refine xi2l C dL_kind_7 ?_
    refine xlastN C 0 0 (wOl tc qo (vp_updL o 0 ((iK (sI S) x.toNatClampNeg).toInt64)) ++ (wF tc a0 u (S) ++ [])) dL_kind_8 rfl (by decide) rfl (by decide) rfl ?_
    refine xgoto C (tgt := 18) dL_kind_9 (by decide) ?_
    refine xiconst C (0) dL_kind_18 (by decide) ?_
    exact xtiret C dL_kind_19 (by decide) (by decide) (by rw [hN]; rfl) rfl (by rw [if_pos hN, if_pos hN])
set_option maxHeartbeats 4000000 in
set_option maxRecDepth 100000 in
theorem h_start (l : Launch) (hl9 : l.stackTraces = false) (G : va_G) (tc : Nat → ClassId) (a0 : Nat) (u : Nat → Nat → Nat) (S : CS) (hm : iM (sI S) ≤ 48) (x : Int32) (qo : Nat) (o : Nat → Int64) (thr : Option String) (hthr : (thI (iR (sI S)) (iM (sI S)) x) = thr) : tIx l yL_start (xwh yL_start cL_start 4 [(0, 9, 12, 15), (0, 9, 15, 25)]) 3 G tc [.ref a0, .int x, .ref qo] (wOl tc qo (o) ++ (wF tc a0 u (S) ++ [])) 2 none (wOl tc qo (o) ++ (wF tc a0 u (S) ++ [])) (cd2 xIS thr) (wOl tc qo (if thr = none then vp_updL o 0 ((iA (sI S) x.toNatClampNeg).toInt64) else o) ++ (wF tc a0 u (if thr = none then S else S) ++ [])) := by
  have hc := thI_c (iR (sI S)) (iM (sI S)) x
  rw [hthr] at hc
  refine hI_of [some (.ref a0), some (.int x), some (.ref qo), none] 1 (by decide) (Nat.le_of_ble_eq_true rfl) rfl ?_
  intro p e s m args below meth c A C hT
  refine xaload_2 C dL_start_0 ?_
  refine xiconst C (nI 0) dL_start_1 (by decide) ?_
  refine xaload_0 C dL_start_2 ?_
  refine xiload_1 C dL_start_3 ?_
  refine xtry C hT (pre := wOl tc qo o) (post := []) m_X5_start k_L_51 (f_start l hl9 G tc a0 u S hm x) dL_start_4 0 rfl rfl (by decide) rfl (Nat.le_of_ble_eq_true rfl) ⟨by decide, by decide⟩ (fun E q hE => ?_) (fun hN => ?_)
  · rw [hthr] at hE
    rcases hc with hc | hc | hc
    · rw [hE] at hc; cases hc
    · have hc2 := hE.symm.trans hc
      cases hc2
      refine ⟨12, ⟨[], ⟨0, 9, 12, 15⟩, [⟨0, 9, 15, 25⟩], rfl, fun z hz => absurd hz (List.not_mem_nil), by decide, by decide, in_wsL_law0_r5 _ (List.mem_of_getElem? (i := 14) rfl), List.mem_of_getElem? (i := 1) rfl, rfl⟩, ?_⟩
      refine xastore_3 C dL_start_12 rfl (by decide) ?_
      refine xiconst C (1) dL_start_13 (by decide) ?_
      exact xtiret C dL_start_14 (by decide) (by decide) (by rw [hE]; rfl) rfl (by rw [hE, if_neg (fun h => nomatch h), if_neg (fun h => nomatch h)])
    · have hc2 := hE.symm.trans hc
      cases hc2
      refine ⟨15, ⟨[⟨0, 9, 12, 15⟩], ⟨0, 9, 15, 25⟩, [], rfl, fun z hz => by rw [List.mem_singleton.mp hz]; exact ⟨by decide, _, in_wsL_law0_r5 _ (List.mem_of_getElem? (i := 14) rfl), List.mem_of_getElem? (i := 5) rfl⟩, by decide, by decide, in_wsL_law0_r7 _ (List.mem_of_getElem? (i := 23) rfl), List.mem_of_getElem? (i := 2) rfl, rfl⟩, ?_⟩
      refine xastore_3 C dL_start_15 rfl (by decide) ?_
      refine xiconst C (2) dL_start_16 (by decide) ?_
      exact xtiret C dL_start_17 (by decide) (by decide) (by rw [hE]; rfl) rfl (by rw [hE, if_neg (fun h => nomatch h), if_neg (fun h => nomatch h)])
  · rw [hthr] at hN
    refine xi2l C dL_start_7 ?_
    refine xlastN C 0 0 (wOl tc qo (vp_updL o 0 ((iA (sI S) x.toNatClampNeg).toInt64)) ++ (wF tc a0 u (S) ++ [])) dL_start_8 rfl (by decide) rfl (by decide) rfl ?_
    refine xgoto C (tgt := 18) dL_start_9 (by decide) ?_
    refine xiconst C (0) dL_start_18 (by decide) ?_
    exact xtiret C dL_start_19 (by decide) (by decide) (by rw [hN]; rfl) rfl (by rw [if_pos hN, if_pos hN])
set_option maxHeartbeats 4000000 in
set_option maxRecDepth 100000 in
theorem h_end (l : Launch) (hl9 : l.stackTraces = false) (G : va_G) (tc : Nat → ClassId) (a0 : Nat) (u : Nat → Nat → Nat) (S : CS) (hm : iM (sI S) ≤ 48) (x : Int32) (qo : Nat) (o : Nat → Int64) (thr : Option String) (hthr : (thI (iR (sI S)) (iM (sI S)) x) = thr) : tIx l yL_end (xwh yL_end cL_end 4 [(0, 9, 12, 15), (0, 9, 15, 25)]) 3 G tc [.ref a0, .int x, .ref qo] (wOl tc qo (o) ++ (wF tc a0 u (S) ++ [])) 2 none (wOl tc qo (o) ++ (wF tc a0 u (S) ++ [])) (cd2 xIS thr) (wOl tc qo (if thr = none then vp_updL o 0 ((iE (sI S) x.toNatClampNeg).toInt64) else o) ++ (wF tc a0 u (if thr = none then S else S) ++ [])) := by
  have hc := thI_c (iR (sI S)) (iM (sI S)) x
  rw [hthr] at hc
  refine hI_of [some (.ref a0), some (.int x), some (.ref qo), none] 1 (by decide) (Nat.le_of_ble_eq_true rfl) rfl ?_
  intro p e s m args below meth c A C hT
  refine xaload_2 C dL_end_0 ?_
  refine xiconst C (nI 0) dL_end_1 (by decide) ?_
  refine xaload_0 C dL_end_2 ?_
  refine xiload_1 C dL_end_3 ?_
  refine xtry C hT (pre := wOl tc qo o) (post := []) m_X5_end k_L_54 (f_end l hl9 G tc a0 u S hm x) dL_end_4 0 rfl rfl (by decide) rfl (Nat.le_of_ble_eq_true rfl) ⟨by decide, by decide⟩ (fun E q hE => ?_) (fun hN => ?_)
  · rw [hthr] at hE
    rcases hc with hc | hc | hc
    · rw [hE] at hc; cases hc
    · have hc2 := hE.symm.trans hc
      cases hc2
      refine ⟨12, ⟨[], ⟨0, 9, 12, 15⟩, [⟨0, 9, 15, 25⟩], rfl, fun z hz => absurd hz (List.not_mem_nil), by decide, by decide, in_wsL_law0_r5 _ (List.mem_of_getElem? (i := 14) rfl), List.mem_of_getElem? (i := 1) rfl, rfl⟩, ?_⟩
      refine xastore_3 C dL_end_12 rfl (by decide) ?_
      refine xiconst C (1) dL_end_13 (by decide) ?_
      exact xtiret C dL_end_14 (by decide) (by decide) (by rw [hE]; rfl) rfl (by rw [hE, if_neg (fun h => nomatch h), if_neg (fun h => nomatch h)])
    · have hc2 := hE.symm.trans hc
      cases hc2
      refine ⟨15, ⟨[⟨0, 9, 12, 15⟩], ⟨0, 9, 15, 25⟩, [], rfl, fun z hz => by rw [List.mem_singleton.mp hz]; exact ⟨by decide, _, in_wsL_law0_r5 _ (List.mem_of_getElem? (i := 14) rfl), List.mem_of_getElem? (i := 5) rfl⟩, by decide, by decide, in_wsL_law0_r7 _ (List.mem_of_getElem? (i := 23) rfl), List.mem_of_getElem? (i := 2) rfl, rfl⟩, ?_⟩
      refine xastore_3 C dL_end_15 rfl (by decide) ?_
      refine xiconst C (2) dL_end_16 (by decide) ?_
      exact xtiret C dL_end_17 (by decide) (by decide) (by rw [hE]; rfl) rfl (by rw [hE, if_neg (fun h => nomatch h), if_neg (fun h => nomatch h)])
  · rw [hthr] at hN
    refine xi2l C dL_end_7 ?_
    refine xlastN C 0 0 (wOl tc qo (vp_updL o 0 ((iE (sI S) x.toNatClampNeg).toInt64)) ++ (wF tc a0 u (S) ++ [])) dL_end_8 rfl (by decide) rfl (by decide) rfl ?_
    refine xgoto C (tgt := 18) dL_end_9 (by decide) ?_
    refine xiconst C (0) dL_end_18 (by decide) ?_
    exact xtiret C dL_end_19 (by decide) (by decide) (by rw [hN]; rfl) rfl (by rw [if_pos hN, if_pos hN])
set_option maxHeartbeats 4000000 in
set_option maxRecDepth 100000 in
theorem h_state (l : Launch) (hl9 : l.stackTraces = false) (G : va_G) (tc : Nat → ClassId) (a0 : Nat) (u : Nat → Nat → Nat) (S : CS) (hm : iM (sI S) ≤ 48) (x : Int32) (qo : Nat) (o : Nat → Int64) (thr : Option String) (hthr : (thI (iR (sI S)) (iM (sI S)) x) = thr) : tIx l yL_state (xwh yL_state cL_state 4 [(0, 9, 12, 15), (0, 9, 15, 25)]) 3 G tc [.ref a0, .int x, .ref qo] (wOl tc qo (o) ++ (wF tc a0 u (S) ++ [])) 2 none (wOl tc qo (o) ++ (wF tc a0 u (S) ++ [])) (cd2 xIS thr) (wOl tc qo (if thr = none then vp_updL o 0 ((iT (sI S) x.toNatClampNeg).toInt64) else o) ++ (wF tc a0 u (if thr = none then S else S) ++ [])) := by
  have hc := thI_c (iR (sI S)) (iM (sI S)) x
  rw [hthr] at hc
  refine hI_of [some (.ref a0), some (.int x), some (.ref qo), none] 1 (by decide) (Nat.le_of_ble_eq_true rfl) rfl ?_
  intro p e s m args below meth c A C hT
  refine xaload_2 C dL_state_0 ?_
  refine xiconst C (nI 0) dL_state_1 (by decide) ?_
  refine xaload_0 C dL_state_2 ?_
  refine xiload_1 C dL_state_3 ?_
  refine xtry C hT (pre := wOl tc qo o) (post := []) m_X5_state k_L_57 (f_state l hl9 G tc a0 u S hm x) dL_state_4 0 rfl rfl (by decide) rfl (Nat.le_of_ble_eq_true rfl) ⟨by decide, by decide⟩ (fun E q hE => ?_) (fun hN => ?_)
  · rw [hthr] at hE
    rcases hc with hc | hc | hc
    · rw [hE] at hc; cases hc
    · have hc2 := hE.symm.trans hc
      cases hc2
      refine ⟨12, ⟨[], ⟨0, 9, 12, 15⟩, [⟨0, 9, 15, 25⟩], rfl, fun z hz => absurd hz (List.not_mem_nil), by decide, by decide, in_wsL_law0_r5 _ (List.mem_of_getElem? (i := 14) rfl), List.mem_of_getElem? (i := 1) rfl, rfl⟩, ?_⟩
      refine xastore_3 C dL_state_12 rfl (by decide) ?_
      refine xiconst C (1) dL_state_13 (by decide) ?_
      exact xtiret C dL_state_14 (by decide) (by decide) (by rw [hE]; rfl) rfl (by rw [hE, if_neg (fun h => nomatch h), if_neg (fun h => nomatch h)])
    · have hc2 := hE.symm.trans hc
      cases hc2
      refine ⟨15, ⟨[⟨0, 9, 12, 15⟩], ⟨0, 9, 15, 25⟩, [], rfl, fun z hz => by rw [List.mem_singleton.mp hz]; exact ⟨by decide, _, in_wsL_law0_r5 _ (List.mem_of_getElem? (i := 14) rfl), List.mem_of_getElem? (i := 5) rfl⟩, by decide, by decide, in_wsL_law0_r7 _ (List.mem_of_getElem? (i := 23) rfl), List.mem_of_getElem? (i := 2) rfl, rfl⟩, ?_⟩
      refine xastore_3 C dL_state_15 rfl (by decide) ?_
      refine xiconst C (2) dL_state_16 (by decide) ?_
      exact xtiret C dL_state_17 (by decide) (by decide) (by rw [hE]; rfl) rfl (by rw [hE, if_neg (fun h => nomatch h), if_neg (fun h => nomatch h)])
  · rw [hthr] at hN
    refine xi2l C dL_state_7 ?_
    refine xlastN C 0 0 (wOl tc qo (vp_updL o 0 ((iT (sI S) x.toNatClampNeg).toInt64)) ++ (wF tc a0 u (S) ++ [])) dL_state_8 rfl (by decide) rfl (by decide) rfl ?_
    refine xgoto C (tgt := 18) dL_state_9 (by decide) ?_
    refine xiconst C (0) dL_state_18 (by decide) ?_
    exact xtiret C dL_state_19 (by decide) (by decide) (by rw [hN]; rfl) rfl (by rw [if_pos hN, if_pos hN])
set_option maxHeartbeats 4000000 in
set_option maxRecDepth 100000 in
theorem h_parent (l : Launch) (hl9 : l.stackTraces = false) (G : va_G) (tc : Nat → ClassId) (a0 : Nat) (u : Nat → Nat → Nat) (S : CS) (hm : iM (sI S) ≤ 48) (x : Int32) (qo : Nat) (o : Nat → Int64) (thr : Option String) (hthr : (thI (iR (sI S)) (iM (sI S)) x) = thr) : tIx l yL_parent (xwh yL_parent cL_parent 4 [(0, 9, 12, 15), (0, 9, 15, 25)]) 3 G tc [.ref a0, .int x, .ref qo] (wOl tc qo (o) ++ (wF tc a0 u (S) ++ [])) 2 none (wOl tc qo (o) ++ (wF tc a0 u (S) ++ [])) (cd2 xIS thr) (wOl tc qo (if thr = none then vp_updL o 0 ((iP (sI S) x.toNatClampNeg).toInt64) else o) ++ (wF tc a0 u (if thr = none then S else S) ++ [])) := by
  have hc := thI_c (iR (sI S)) (iM (sI S)) x
  rw [hthr] at hc
  refine hI_of [some (.ref a0), some (.int x), some (.ref qo), none] 1 (by decide) (Nat.le_of_ble_eq_true rfl) rfl ?_
  intro p e s m args below meth c A C hT
  refine xaload_2 C dL_parent_0 ?_
  refine xiconst C (nI 0) dL_parent_1 (by decide) ?_
  refine xaload_0 C dL_parent_2 ?_
  refine xiload_1 C dL_parent_3 ?_
  refine xtry C hT (pre := wOl tc qo o) (post := []) m_X5_parent k_L_60 (f_parent l hl9 G tc a0 u S hm x) dL_parent_4 0 rfl rfl (by decide) rfl (Nat.le_of_ble_eq_true rfl) ⟨by decide, by decide⟩ (fun E q hE => ?_) (fun hN => ?_)
  · rw [hthr] at hE
    rcases hc with hc | hc | hc
    · rw [hE] at hc; cases hc
    · have hc2 := hE.symm.trans hc
      cases hc2
      refine ⟨12, ⟨[], ⟨0, 9, 12, 15⟩, [⟨0, 9, 15, 25⟩], rfl, fun z hz => absurd hz (List.not_mem_nil), by decide, by decide, in_wsL_law0_r5 _ (List.mem_of_getElem? (i := 14) rfl), List.mem_of_getElem? (i := 1) rfl, rfl⟩, ?_⟩
      refine xastore_3 C dL_parent_12 rfl (by decide) ?_
      refine xiconst C (1) dL_parent_13 (by decide) ?_
      exact xtiret C dL_parent_14 (by decide) (by decide) (by rw [hE]; rfl) rfl (by rw [hE, if_neg (fun h => nomatch h), if_neg (fun h => nomatch h)])
    · have hc2 := hE.symm.trans hc
      cases hc2
      refine ⟨15, ⟨[⟨0, 9, 12, 15⟩], ⟨0, 9, 15, 25⟩, [], rfl, fun z hz => by rw [List.mem_singleton.mp hz]; exact ⟨by decide, _, in_wsL_law0_r5 _ (List.mem_of_getElem? (i := 14) rfl), List.mem_of_getElem? (i := 5) rfl⟩, by decide, by decide, in_wsL_law0_r7 _ (List.mem_of_getElem? (i := 23) rfl), List.mem_of_getElem? (i := 2) rfl, rfl⟩, ?_⟩
      refine xastore_3 C dL_parent_15 rfl (by decide) ?_
      refine xiconst C (2) dL_parent_16 (by decide) ?_
      exact xtiret C dL_parent_17 (by decide) (by decide) (by rw [hE]; rfl) rfl (by rw [hE, if_neg (fun h => nomatch h), if_neg (fun h => nomatch h)])
  · rw [hthr] at hN
    refine xi2l C dL_parent_7 ?_
    refine xlastN C 0 0 (wOl tc qo (vp_updL o 0 ((iP (sI S) x.toNatClampNeg).toInt64)) ++ (wF tc a0 u (S) ++ [])) dL_parent_8 rfl (by decide) rfl (by decide) rfl ?_
    refine xgoto C (tgt := 18) dL_parent_9 (by decide) ?_
    refine xiconst C (0) dL_parent_18 (by decide) ?_
    exact xtiret C dL_parent_19 (by decide) (by decide) (by rw [hN]; rfl) rfl (by rw [if_pos hN, if_pos hN])
set_option maxHeartbeats 4000000 in
set_option maxRecDepth 100000 in
theorem h_depth (l : Launch) (hl9 : l.stackTraces = false) (G : va_G) (tc : Nat → ClassId) (a0 : Nat) (u : Nat → Nat → Nat) (S : CS) (hm : iM (sI S) ≤ 48) (x : Int32) (qo : Nat) (o : Nat → Int64) (thr : Option String) (hthr : (thI (iR (sI S)) (iM (sI S)) x) = thr) : tIx l yL_depth (xwh yL_depth cL_depth 4 [(0, 9, 12, 15), (0, 9, 15, 25)]) 3 G tc [.ref a0, .int x, .ref qo] (wOl tc qo (o) ++ (wF tc a0 u (S) ++ [])) 2 none (wOl tc qo (o) ++ (wF tc a0 u (S) ++ [])) (cd2 xIS thr) (wOl tc qo (if thr = none then vp_updL o 0 ((iD (sI S) x.toNatClampNeg).toInt64) else o) ++ (wF tc a0 u (if thr = none then S else S) ++ [])) := by
  have hc := thI_c (iR (sI S)) (iM (sI S)) x
  rw [hthr] at hc
  refine hI_of [some (.ref a0), some (.int x), some (.ref qo), none] 1 (by decide) (Nat.le_of_ble_eq_true rfl) rfl ?_
  intro p e s m args below meth c A C hT
  refine xaload_2 C dL_depth_0 ?_
  refine xiconst C (nI 0) dL_depth_1 (by decide) ?_
  refine xaload_0 C dL_depth_2 ?_
  refine xiload_1 C dL_depth_3 ?_
  refine xtry C hT (pre := wOl tc qo o) (post := []) m_X5_depth k_L_63 (f_depth l hl9 G tc a0 u S hm x) dL_depth_4 0 rfl rfl (by decide) rfl (Nat.le_of_ble_eq_true rfl) ⟨by decide, by decide⟩ (fun E q hE => ?_) (fun hN => ?_)
  · rw [hthr] at hE
    rcases hc with hc | hc | hc
    · rw [hE] at hc; cases hc
    · have hc2 := hE.symm.trans hc
      cases hc2
      refine ⟨12, ⟨[], ⟨0, 9, 12, 15⟩, [⟨0, 9, 15, 25⟩], rfl, fun z hz => absurd hz (List.not_mem_nil), by decide, by decide, in_wsL_law0_r5 _ (List.mem_of_getElem? (i := 14) rfl), List.mem_of_getElem? (i := 1) rfl, rfl⟩, ?_⟩
      refine xastore_3 C dL_depth_12 rfl (by decide) ?_
      refine xiconst C (1) dL_depth_13 (by decide) ?_
      exact xtiret C dL_depth_14 (by decide) (by decide) (by rw [hE]; rfl) rfl (by rw [hE, if_neg (fun h => nomatch h), if_neg (fun h => nomatch h)])
    · have hc2 := hE.symm.trans hc
      cases hc2
      refine ⟨15, ⟨[⟨0, 9, 12, 15⟩], ⟨0, 9, 15, 25⟩, [], rfl, fun z hz => by rw [List.mem_singleton.mp hz]; exact ⟨by decide, _, in_wsL_law0_r5 _ (List.mem_of_getElem? (i := 14) rfl), List.mem_of_getElem? (i := 5) rfl⟩, by decide, by decide, in_wsL_law0_r7 _ (List.mem_of_getElem? (i := 23) rfl), List.mem_of_getElem? (i := 2) rfl, rfl⟩, ?_⟩
      refine xastore_3 C dL_depth_15 rfl (by decide) ?_
      refine xiconst C (2) dL_depth_16 (by decide) ?_
      exact xtiret C dL_depth_17 (by decide) (by decide) (by rw [hE]; rfl) rfl (by rw [hE, if_neg (fun h => nomatch h), if_neg (fun h => nomatch h)])
  · rw [hthr] at hN
    refine xi2l C dL_depth_7 ?_
    refine xlastN C 0 0 (wOl tc qo (vp_updL o 0 ((iD (sI S) x.toNatClampNeg).toInt64)) ++ (wF tc a0 u (S) ++ [])) dL_depth_8 rfl (by decide) rfl (by decide) rfl ?_
    refine xgoto C (tgt := 18) dL_depth_9 (by decide) ?_
    refine xiconst C (0) dL_depth_18 (by decide) ?_
    exact xtiret C dL_depth_19 (by decide) (by decide) (by rw [hN]; rfl) rfl (by rw [if_pos hN, if_pos hN])
set_option maxHeartbeats 4000000 in
set_option maxRecDepth 100000 in
theorem h_own (l : Launch) (hl9 : l.stackTraces = false) (G : va_G) (tc : Nat → ClassId) (a0 : Nat) (u : Nat → Nat → Nat) (S : CS) (hm : iM (sI S) ≤ 48) (x : Int32) (qo : Nat) (o : Nat → Int64) (thr : Option String) (hthr : (thI (iR (sI S)) (iM (sI S)) x) = thr) : tIx l yL_own (xwh yL_own cL_own 4 [(0, 9, 12, 15), (0, 9, 15, 25)]) 3 G tc [.ref a0, .int x, .ref qo] (wOl tc qo (o) ++ (wF tc a0 u (S) ++ [])) 2 none (wOl tc qo (o) ++ (wF tc a0 u (S) ++ [])) (cd2 xIS thr) (wOl tc qo (if thr = none then vp_updL o 0 ((iE (sI S) x.toNatClampNeg - iA (sI S) x.toNatClampNeg - bocG (iP (sI S)) (iE (sI S)) (iA (sI S)) x (iM (sI S)) 0 0).toInt64) else o) ++ (wF tc a0 u (if thr = none then S else S) ++ [])) := by
  have hc := thI_c (iR (sI S)) (iM (sI S)) x
  rw [hthr] at hc
  refine hI_of [some (.ref a0), some (.int x), some (.ref qo), none] 1 (by decide) (Nat.le_of_ble_eq_true rfl) rfl ?_
  intro p e s m args below meth c A C hT
  refine xaload_2 C dL_own_0 ?_
  refine xiconst C (nI 0) dL_own_1 (by decide) ?_
  refine xaload_0 C dL_own_2 ?_
  refine xiload_1 C dL_own_3 ?_
  refine xtry C hT (pre := wOl tc qo o) (post := []) m_X5_own k_L_66 (f_own l hl9 G tc a0 u S hm x) dL_own_4 0 rfl rfl (by decide) rfl (Nat.le_of_ble_eq_true rfl) ⟨by decide, by decide⟩ (fun E q hE => ?_) (fun hN => ?_)
  · rw [hthr] at hE
    rcases hc with hc | hc | hc
    · rw [hE] at hc; cases hc
    · have hc2 := hE.symm.trans hc
      cases hc2
      refine ⟨12, ⟨[], ⟨0, 9, 12, 15⟩, [⟨0, 9, 15, 25⟩], rfl, fun z hz => absurd hz (List.not_mem_nil), by decide, by decide, in_wsL_law0_r5 _ (List.mem_of_getElem? (i := 14) rfl), List.mem_of_getElem? (i := 1) rfl, rfl⟩, ?_⟩
      refine xastore_3 C dL_own_12 rfl (by decide) ?_
      refine xiconst C (1) dL_own_13 (by decide) ?_
      exact xtiret C dL_own_14 (by decide) (by decide) (by rw [hE]; rfl) rfl (by rw [hE, if_neg (fun h => nomatch h), if_neg (fun h => nomatch h)])
    · have hc2 := hE.symm.trans hc
      cases hc2
      refine ⟨15, ⟨[⟨0, 9, 12, 15⟩], ⟨0, 9, 15, 25⟩, [], rfl, fun z hz => by rw [List.mem_singleton.mp hz]; exact ⟨by decide, _, in_wsL_law0_r5 _ (List.mem_of_getElem? (i := 14) rfl), List.mem_of_getElem? (i := 5) rfl⟩, by decide, by decide, in_wsL_law0_r7 _ (List.mem_of_getElem? (i := 23) rfl), List.mem_of_getElem? (i := 2) rfl, rfl⟩, ?_⟩
      refine xastore_3 C dL_own_15 rfl (by decide) ?_
      refine xiconst C (2) dL_own_16 (by decide) ?_
      exact xtiret C dL_own_17 (by decide) (by decide) (by rw [hE]; rfl) rfl (by rw [hE, if_neg (fun h => nomatch h), if_neg (fun h => nomatch h)])
  · rw [hthr] at hN
    refine xi2l C dL_own_7 ?_
    refine xlastN C 0 0 (wOl tc qo (vp_updL o 0 ((iE (sI S) x.toNatClampNeg - iA (sI S) x.toNatClampNeg - bocG (iP (sI S)) (iE (sI S)) (iA (sI S)) x (iM (sI S)) 0 0).toInt64)) ++ (wF tc a0 u (S) ++ [])) dL_own_8 rfl (by decide) rfl (by decide) rfl ?_
    refine xgoto C (tgt := 18) dL_own_9 (by decide) ?_
    refine xiconst C (0) dL_own_18 (by decide) ?_
    exact xtiret C dL_own_19 (by decide) (by decide) (by rw [hN]; rfl) rfl (by rw [if_pos hN, if_pos hN])
set_option maxHeartbeats 4000000 in
set_option maxRecDepth 100000 in
theorem h_at (l : Launch) (hl9 : l.stackTraces = false) (G : va_G) (tc : Nat → ClassId) (a0 : Nat) (u : Nat → Nat → Nat) (S : CS) (hm : iM (sI S) ≤ 48) (x : Int32) (qo : Nat) (o : Nat → Int64) (thr : Option String) (hthr : ((thR (iR (sI S))).or (thP (sN S) x)) = thr) : tIx l yL_at (xwh yL_at cL_at 4 [(0, 9, 12, 15), (0, 9, 15, 25)]) 3 G tc [.ref a0, .int x, .ref qo] (wOl tc qo (o) ++ (wF tc a0 u (S) ++ [])) 2 none (wOl tc qo (o) ++ (wF tc a0 u (S) ++ [])) (cd2 xIS thr) (wOl tc qo (if thr = none then vp_updL o 0 ((iaG (iA (sI S)) (iE (sI S)) x (iM (sI S))).toInt64) else o) ++ (wF tc a0 u (if thr = none then S else S) ++ [])) := by
  have hc := or_c (thR_c (iR (sI S))) (thP_c (sN S) x)
  rw [hthr] at hc
  refine hI_of [some (.ref a0), some (.int x), some (.ref qo), none] 1 (by decide) (Nat.le_of_ble_eq_true rfl) rfl ?_
  intro p e s m args below meth c A C hT
  refine xaload_2 C dL_at_0 ?_
  refine xiconst C (nI 0) dL_at_1 (by decide) ?_
  refine xaload_0 C dL_at_2 ?_
  refine xiload_1 C dL_at_3 ?_
  refine xtry C hT (pre := wOl tc qo o) (post := []) m_X5_at k_L_69 (f_at l hl9 G tc a0 u S hm x) dL_at_4 0 rfl rfl (by decide) rfl (Nat.le_of_ble_eq_true rfl) ⟨by decide, by decide⟩ (fun E q hE => ?_) (fun hN => ?_)
  · rw [hthr] at hE
    rcases hc with hc | hc | hc
    · rw [hE] at hc; cases hc
    · have hc2 := hE.symm.trans hc
      cases hc2
      refine ⟨12, ⟨[], ⟨0, 9, 12, 15⟩, [⟨0, 9, 15, 25⟩], rfl, fun z hz => absurd hz (List.not_mem_nil), by decide, by decide, in_wsL_law0_r5 _ (List.mem_of_getElem? (i := 14) rfl), List.mem_of_getElem? (i := 1) rfl, rfl⟩, ?_⟩
      refine xastore_3 C dL_at_12 rfl (by decide) ?_
      refine xiconst C (1) dL_at_13 (by decide) ?_
      exact xtiret C dL_at_14 (by decide) (by decide) (by rw [hE]; rfl) rfl (by rw [hE, if_neg (fun h => nomatch h), if_neg (fun h => nomatch h)])
    · have hc2 := hE.symm.trans hc
      cases hc2
      refine ⟨15, ⟨[⟨0, 9, 12, 15⟩], ⟨0, 9, 15, 25⟩, [], rfl, fun z hz => by rw [List.mem_singleton.mp hz]; exact ⟨by decide, _, in_wsL_law0_r5 _ (List.mem_of_getElem? (i := 14) rfl), List.mem_of_getElem? (i := 5) rfl⟩, by decide, by decide, in_wsL_law0_r7 _ (List.mem_of_getElem? (i := 23) rfl), List.mem_of_getElem? (i := 2) rfl, rfl⟩, ?_⟩
      refine xastore_3 C dL_at_15 rfl (by decide) ?_
      refine xiconst C (2) dL_at_16 (by decide) ?_
      exact xtiret C dL_at_17 (by decide) (by decide) (by rw [hE]; rfl) rfl (by rw [hE, if_neg (fun h => nomatch h), if_neg (fun h => nomatch h)])
  · rw [hthr] at hN
    refine xi2l C dL_at_7 ?_
    refine xlastN C 0 0 (wOl tc qo (vp_updL o 0 ((iaG (iA (sI S)) (iE (sI S)) x (iM (sI S))).toInt64)) ++ (wF tc a0 u (S) ++ [])) dL_at_8 rfl (by decide) rfl (by decide) rfl ?_
    refine xgoto C (tgt := 18) dL_at_9 (by decide) ?_
    refine xiconst C (0) dL_at_18 (by decide) ?_
    exact xtiret C dL_at_19 (by decide) (by decide) (by rw [hN]; rfl) rfl (by rw [if_pos hN, if_pos hN])
set_option maxHeartbeats 4000000 in
set_option maxRecDepth 100000 in
theorem h_count (l : Launch) (hl9 : l.stackTraces = false) (G : va_G) (tc : Nat → ClassId) (a0 : Nat) (u : Nat → Nat → Nat) (S : CS) (hm : iM (sI S) ≤ 48) (x : Int32) (y : Int32) (qo : Nat) (o : Nat → Int64) (thr : Option String) (hthr : ((thR (iR (sI S))).or ((thK x).or (if (decide (y < 0) || !decide (y < 3)) = true then some xIO else none))) = thr) : tIx l yL_count (xwh yL_count cL_count 5 [(0, 10, 13, 15), (0, 10, 17, 25)]) 2 G tc [.ref a0, .int x, .int y, .ref qo] (wOl tc qo (o) ++ (wF tc a0 u (S) ++ [])) 3 none (wOl tc qo (o) ++ (wF tc a0 u (S) ++ [])) (cd2 xIS thr) (wOl tc qo (if thr = none then vp_updL o 0 ((nI (cntG (iK (sI S)) (iT (sI S)) x y (iM (sI S)) 0 0)).toInt64) else o) ++ (wF tc a0 u (if thr = none then S else S) ++ [])) := by
  have hc := cnt_c (iR (sI S)) x y
  rw [hthr] at hc
  refine hI_of [some (.ref a0), some (.int x), some (.int y), some (.ref qo), none] 1 (by decide) (Nat.le_of_ble_eq_true rfl) rfl ?_
  intro p e s m args below meth c A C hT
  refine xaload_3 C dL_count_0 ?_
  refine xiconst C (nI 0) dL_count_1 (by decide) ?_
  refine xaload_0 C dL_count_2 ?_
  refine xiload_1 C dL_count_3 ?_
  refine xiload_2 C dL_count_4 ?_
  refine xtry C hT (pre := wOl tc qo o) (post := []) m_X5_count k_L_72 (f_count l hl9 G tc a0 u S hm x y) dL_count_5 0 rfl rfl (by decide) rfl (Nat.le_of_ble_eq_true rfl) ⟨by decide, by decide⟩ (fun E q hE => ?_) (fun hN => ?_)
  · rw [hthr] at hE
    rcases hc with hc | hc | hc
    · rw [hE] at hc; cases hc
    · have hc2 := hE.symm.trans hc
      cases hc2
      refine ⟨13, ⟨[], ⟨0, 10, 13, 15⟩, [⟨0, 10, 17, 25⟩], rfl, fun z hz => absurd hz (List.not_mem_nil), by decide, by decide, in_wsL_law0_r5 _ (List.mem_of_getElem? (i := 14) rfl), List.mem_of_getElem? (i := 1) rfl, rfl⟩, ?_⟩
      refine xastore_4 C dL_count_13 rfl (by decide) ?_
      refine xiconst C (1) dL_count_15 (by decide) ?_
      exact xtiret C dL_count_16 (by decide) (by decide) (by rw [hE]; rfl) rfl (by rw [hE, if_neg (fun h => nomatch h), if_neg (fun h => nomatch h)])
    · have hc2 := hE.symm.trans hc
      cases hc2
      refine ⟨17, ⟨[⟨0, 10, 13, 15⟩], ⟨0, 10, 17, 25⟩, [], rfl, fun z hz => by rw [List.mem_singleton.mp hz]; exact ⟨by decide, _, in_wsL_law0_r5 _ (List.mem_of_getElem? (i := 14) rfl), List.mem_of_getElem? (i := 5) rfl⟩, by decide, by decide, in_wsL_law0_r7 _ (List.mem_of_getElem? (i := 23) rfl), List.mem_of_getElem? (i := 2) rfl, rfl⟩, ?_⟩
      refine xastore_4 C dL_count_17 rfl (by decide) ?_
      refine xiconst C (2) dL_count_19 (by decide) ?_
      exact xtiret C dL_count_20 (by decide) (by decide) (by rw [hE]; rfl) rfl (by rw [hE, if_neg (fun h => nomatch h), if_neg (fun h => nomatch h)])
  · rw [hthr] at hN
    refine xi2l C dL_count_8 ?_
    refine xlastN C 0 0 (wOl tc qo (vp_updL o 0 ((nI (cntG (iK (sI S)) (iT (sI S)) x y (iM (sI S)) 0 0)).toInt64)) ++ (wF tc a0 u (S) ++ [])) dL_count_9 rfl (by decide) rfl (by decide) rfl ?_
    refine xgoto C (tgt := 21) dL_count_10 (by decide) ?_
    refine xiconst C (0) dL_count_21 (by decide) ?_
    exact xtiret C dL_count_22 (by decide) (by decide) (by rw [hN]; rfl) rfl (by rw [if_pos hN, if_pos hN])
set_option maxHeartbeats 4000000 in
set_option maxRecDepth 100000 in
theorem h_water (l : Launch) (hl9 : l.stackTraces = false) (G : va_G) (tc : Nat → ClassId) (a0 : Nat) (u : Nat → Nat → Nat) (S : CS) (hm : iM (sI S) ≤ 48)  (qo : Nat) (o : Nat → Int64) (thr : Option String) (hthr : (thR (iR (sI S))) = thr) : tIx l yL_water (xwh yL_water cL_water 3 [(0, 8, 11, 15)]) 2 G tc [.ref a0, .ref qo] (wOl tc qo (o) ++ (wF tc a0 u (S) ++ [])) 1 none (wOl tc qo (o) ++ (wF tc a0 u (S) ++ [])) (cd1 thr) (wOl tc qo (if thr = none then vp_updL o 0 ((nI (sN S) - bocG (iP (sI S)) (iE (sI S)) (iA (sI S)) (-1) (iM (sI S)) 0 0).toInt64) else o) ++ (wF tc a0 u (if thr = none then S else S) ++ [])) := by
  have hc := thR_c (iR (sI S))
  rw [hthr] at hc
  refine hI_of [some (.ref a0), some (.ref qo), none] 1 (by decide) (Nat.le_of_ble_eq_true rfl) rfl ?_
  intro p e s m args below meth c A C hT
  refine xaload_1 C dL_water_0 ?_
  refine xiconst C (nI 0) dL_water_1 (by decide) ?_
  refine xaload_0 C dL_water_2 ?_
  refine xtry C hT (pre := wOl tc qo o) (post := []) m_X5_water k_L_75 (f_water l hl9 G tc a0 u S hm) dL_water_3 0 rfl rfl (by decide) rfl (Nat.le_of_ble_eq_true rfl) ⟨by decide, by decide⟩ (fun E q hE => ?_) (fun hN => ?_)
  · rw [hthr] at hE
    rcases hc with hc | hc
    · rw [hE] at hc; cases hc
    · have hc2 := hE.symm.trans hc
      cases hc2
      refine ⟨11, ⟨[], ⟨0, 8, 11, 15⟩, [], rfl, fun z hz => absurd hz (List.not_mem_nil), by decide, by decide, in_wsL_law0_r5 _ (List.mem_of_getElem? (i := 14) rfl), List.mem_of_getElem? (i := 1) rfl, rfl⟩, ?_⟩
      refine xastore_2 C dL_water_11 rfl (by decide) ?_
      refine xiconst C (1) dL_water_12 (by decide) ?_
      exact xtiret C dL_water_13 (by decide) (by decide) (by rw [hE]; rfl) rfl (by rw [hE, if_neg (fun h => nomatch h), if_neg (fun h => nomatch h)])
  · rw [hthr] at hN
    refine xi2l C dL_water_6 ?_
    refine xlastN C 0 0 (wOl tc qo (vp_updL o 0 ((nI (sN S) - bocG (iP (sI S)) (iE (sI S)) (iA (sI S)) (-1) (iM (sI S)) 0 0).toInt64)) ++ (wF tc a0 u (S) ++ [])) dL_water_7 rfl (by decide) rfl (by decide) rfl ?_
    refine xgoto C (tgt := 14) dL_water_8 (by decide) ?_
    refine xiconst C (0) dL_water_14 (by decide) ?_
    exact xtiret C dL_water_15 (by decide) (by decide) (by rw [hN]; rfl) rfl (by rw [if_pos hN, if_pos hN])
set_option maxHeartbeats 4000000 in
set_option maxRecDepth 100000 in
theorem h_left (l : Launch) (hl9 : l.stackTraces = false) (G : va_G) (tc : Nat → ClassId) (a0 : Nat) (u : Nat → Nat → Nat) (S : CS)  (qo : Nat) (o : Nat → Int64) (thr : Option String) (hthr : (thR (iR (sI S))) = thr) : tIx l yL_left (xwh yL_left cL_left 3 [(0, 8, 11, 15)]) 2 G tc [.ref a0, .ref qo] (wOl tc qo (o) ++ (wF tc a0 u (S) ++ [])) 1 none (wOl tc qo (o) ++ (wF tc a0 u (S) ++ [])) (cd1 thr) (wOl tc qo (if thr = none then vp_updL o 0 ((nI (iL (sI S))).toInt64) else o) ++ (wF tc a0 u (if thr = none then S else S) ++ [])) := by
  have hc := thR_c (iR (sI S))
  rw [hthr] at hc
  refine hI_of [some (.ref a0), some (.ref qo), none] 1 (by decide) (Nat.le_of_ble_eq_true rfl) rfl ?_
  intro p e s m args below meth c A C hT
  refine xaload_1 C dL_left_0 ?_
  refine xiconst C (nI 0) dL_left_1 (by decide) ?_
  refine xaload_0 C dL_left_2 ?_
  refine xtry C hT (pre := wOl tc qo o) (post := []) m_X5_left k_L_78 (f_left l hl9 G tc a0 u S ) dL_left_3 0 rfl rfl (by decide) rfl (Nat.le_of_ble_eq_true rfl) ⟨by decide, by decide⟩ (fun E q hE => ?_) (fun hN => ?_)
  · rw [hthr] at hE
    rcases hc with hc | hc
    · rw [hE] at hc; cases hc
    · have hc2 := hE.symm.trans hc
      cases hc2
      refine ⟨11, ⟨[], ⟨0, 8, 11, 15⟩, [], rfl, fun z hz => absurd hz (List.not_mem_nil), by decide, by decide, in_wsL_law0_r5 _ (List.mem_of_getElem? (i := 14) rfl), List.mem_of_getElem? (i := 1) rfl, rfl⟩, ?_⟩
      refine xastore_2 C dL_left_11 rfl (by decide) ?_
      refine xiconst C (1) dL_left_12 (by decide) ?_
      exact xtiret C dL_left_13 (by decide) (by decide) (by rw [hE]; rfl) rfl (by rw [hE, if_neg (fun h => nomatch h), if_neg (fun h => nomatch h)])
  · rw [hthr] at hN
    refine xi2l C dL_left_6 ?_
    refine xlastN C 0 0 (wOl tc qo (vp_updL o 0 ((nI (iL (sI S))).toInt64)) ++ (wF tc a0 u (S) ++ [])) dL_left_7 rfl (by decide) rfl (by decide) rfl ?_
    refine xgoto C (tgt := 14) dL_left_8 (by decide) ?_
    refine xiconst C (0) dL_left_14 (by decide) ?_
    exact xtiret C dL_left_15 (by decide) (by decide) (by rw [hN]; rfl) rfl (by rw [if_pos hN, if_pos hN])
set_option maxHeartbeats 4000000 in
set_option maxRecDepth 100000 in
theorem h_share (l : Launch) (hl9 : l.stackTraces = false) (G : va_G) (tc : Nat → ClassId) (a0 : Nat) (u : Nat → Nat → Nat) (S : CS) (hn : sN S ≤ 48) (hm : iM (sI S) ≤ 48) (hnan : iR (sI S) = true → ¬ sN S = 0 → vf_n64 (FP.ddiv (FP.i2d (bocG (iP (sI S)) (iE (sI S)) (iA (sI S)) (-1) (iM (sI S)) 0 0)) (FP.i2d (nI (sN S)))))  (qd : Nat) (o : Nat → UInt64) (thr : Option String) (hthr : (thR (iR (sI S))) = thr) : tIx l yL_share (xwh yL_share cL_share 3 [(0, 7, 10, 15)]) 2 G tc [.ref a0, .ref qd] ([] ++ (wF tc a0 u (S) ++ wOd tc qd (o))) 1 none ([] ++ (wF tc a0 u (S) ++ wOd tc qd (o))) (cd1 thr) ([] ++ (wF tc a0 u (if thr = none then S else S) ++ wOd tc qd (if thr = none then vf_upd o 0 (if sN S = 0 then FP.dconst0 else FP.ddiv (FP.i2d (bocG (iP (sI S)) (iE (sI S)) (iA (sI S)) (-1) (iM (sI S)) 0 0)) (FP.i2d (nI (sN S)))) else o))) := by
  have hc := thR_c (iR (sI S))
  rw [hthr] at hc
  refine hI_of [some (.ref a0), some (.ref qd), none] 1 (by decide) (Nat.le_of_ble_eq_true rfl) rfl ?_
  intro p e s m args below meth c A C hT
  refine xaload_1 C dL_share_0 ?_
  refine xiconst C (nI 0) dL_share_1 (by decide) ?_
  refine xaload_0 C dL_share_2 ?_
  refine xtryD C hT (pre := []) (post := wOd tc qd o) m_X5_share k_L_81 (f_share l hl9 G tc a0 u S hn hm hnan) dL_share_3 0 rfl rfl (by decide) rfl (Nat.le_of_ble_eq_true rfl) ⟨by decide, by decide⟩ (fun E q hE => ?_) (fun hN => ?_)
  · rw [hthr] at hE
    rcases hc with hc | hc
    · rw [hE] at hc; cases hc
    · have hc2 := hE.symm.trans hc
      cases hc2
      refine ⟨10, ⟨[], ⟨0, 7, 10, 15⟩, [], rfl, fun z hz => absurd hz (List.not_mem_nil), by decide, by decide, in_wsL_law0_r5 _ (List.mem_of_getElem? (i := 14) rfl), List.mem_of_getElem? (i := 1) rfl, rfl⟩, ?_⟩
      refine xastore_2 C dL_share_10 rfl (by decide) ?_
      refine xiconst C (1) dL_share_11 (by decide) ?_
      exact xtiret C dL_share_12 (by decide) (by decide) (by rw [hE]; rfl) rfl (by rw [hE, if_neg (fun h => nomatch h), if_neg (fun h => nomatch h)])
  · rw [hthr] at hN
    refine xdastN C 0 23 ([] ++ (wF tc a0 u (S) ++ wOd tc qd (vf_upd o 0 (if sN S = 0 then FP.dconst0 else FP.ddiv (FP.i2d (bocG (iP (sI S)) (iE (sI S)) (iA (sI S)) (-1) (iM (sI S)) 0 0)) (FP.i2d (nI (sN S))))))) dL_share_6 rfl (by decide) rfl (by decide) rfl ?_
    refine xgoto C (tgt := 13) dL_share_7 (by decide) ?_
    refine xiconst C (0) dL_share_13 (by decide) ?_
    exact xtiret C dL_share_14 (by decide) (by decide) (by rw [hN]; rfl) rfl (by rw [if_pos hN, if_pos hN])
section
theorem mh_feed : xMh yL_feed cL_feed 5 [(0, 9, 12, 13), (0, 9, 16, 15)] 3 := ⟨in_wsL_law0_r5 _ (List.mem_of_getElem? (i := 12) rfl), in_wsL_law0_r5 _ (List.mem_of_getElem? (i := 11) rfl), in_wsL_law0_r5 _ (List.mem_of_getElem? (i := 10) rfl), ⟨by decide +kernel, by decide +kernel, by decide +kernel⟩, by decide⟩
theorem mh_cut : xMh yL_cut cL_cut 4 [(0, 9, 12, 13)] 3 := ⟨in_wsL_law0_r7 _ (List.mem_of_getElem? (i := 11) rfl), in_wsL_law0_r5 _ (List.mem_of_getElem? (i := 11) rfl), in_wsL_law0_r7 _ (List.mem_of_getElem? (i := 10) rfl), ⟨by decide +kernel, by decide +kernel, by decide +kernel⟩, by decide⟩
theorem mh_set : xMh yL_set cL_set 5 [(0, 10, 13, 25), (0, 10, 17, 13)] 4 := ⟨in_wsL_law0_r7 _ (List.mem_of_getElem? (i := 22) rfl), in_wsL_law0_r5 _ (List.mem_of_getElem? (i := 11) rfl), in_wsL_law0_r7 _ (List.mem_of_getElem? (i := 21) rfl), ⟨by decide +kernel, by decide +kernel, by decide +kernel⟩, by decide⟩
theorem mh_byteAt : xMh yL_byteAt cL_byteAt 4 [(0, 9, 12, 25)] 3 := ⟨in_wsL_law0_r9 _ (List.mem_of_getElem? (i := 5) rfl), in_wsL_law0_r5 _ (List.mem_of_getElem? (i := 11) rfl), in_wsL_law0_r9 _ (List.mem_of_getElem? (i := 4) rfl), ⟨by decide +kernel, by decide +kernel, by decide +kernel⟩, by decide⟩
theorem mh_setEscape : xMh yL_setEscape cL_setEscape 4 [(0, 9, 12, 13)] 3 := ⟨in_wsL_law0_r9 _ (List.mem_of_getElem? (i := 16) rfl), in_wsL_law0_r5 _ (List.mem_of_getElem? (i := 11) rfl), in_wsL_law0_r9 _ (List.mem_of_getElem? (i := 15) rfl), ⟨by decide +kernel, by decide +kernel, by decide +kernel⟩, by decide⟩
theorem mh_setWord : xMh yL_setWord cL_setWord 7 [(0, 21, 24, 25), (0, 21, 28, 13)] 6 := ⟨in_wsL_law0_r10 _ (List.mem_of_getElem? (i := 4) rfl), in_wsL_law0_r5 _ (List.mem_of_getElem? (i := 11) rfl), in_wsL_law0_r10 _ (List.mem_of_getElem? (i := 3) rfl), ⟨by decide +kernel, by decide +kernel, by decide +kernel⟩, by decide⟩
theorem mh_setKind : xMh yL_setKind cL_setKind 7 [(0, 14, 17, 25), (0, 14, 21, 13)] 6 := ⟨in_wsL_law0_r11 _ (List.mem_of_getElem? (i := 5) rfl), in_wsL_law0_r5 _ (List.mem_of_getElem? (i := 11) rfl), in_wsL_law0_r11 _ (List.mem_of_getElem? (i := 4) rfl), ⟨by decide +kernel, by decide +kernel, by decide +kernel⟩, by decide⟩
theorem mh_mark : xMh yL_mark cL_mark 4 [(0, 9, 12, 25)] 3 := ⟨in_wsL_law0_r22 _ (List.mem_of_getElem? (i := 13) rfl), in_wsL_law0_r5 _ (List.mem_of_getElem? (i := 11) rfl), in_wsL_law0_r22 _ (List.mem_of_getElem? (i := 12) rfl), ⟨by decide +kernel, by decide +kernel, by decide +kernel⟩, by decide⟩
theorem mh_islandCount : xMh yL_islandCount cL_islandCount 3 [(0, 8, 11, 15)] 2 := ⟨in_wsL_law0_r23 _ (List.mem_of_getElem? (i := 1) rfl), in_wsL_law0_r5 _ (List.mem_of_getElem? (i := 11) rfl), in_wsL_law0_r23 _ (List.mem_of_getElem? (i := 0) rfl), ⟨by decide +kernel, by decide +kernel, by decide +kernel⟩, by decide⟩
theorem mh_kind : xMh yL_kind cL_kind 4 [(0, 9, 12, 15), (0, 9, 15, 25)] 3 := ⟨in_wsL_law0_r23 _ (List.mem_of_getElem? (i := 20) rfl), in_wsL_law0_r5 _ (List.mem_of_getElem? (i := 11) rfl), in_wsL_law0_r23 _ (List.mem_of_getElem? (i := 19) rfl), ⟨by decide +kernel, by decide +kernel, by decide +kernel⟩, by decide⟩
theorem mh_start : xMh yL_start cL_start 4 [(0, 9, 12, 15), (0, 9, 15, 25)] 3 := ⟨in_wsL_law0_r24 _ (List.mem_of_getElem? (i := 12) rfl), in_wsL_law0_r5 _ (List.mem_of_getElem? (i := 11) rfl), in_wsL_law0_r24 _ (List.mem_of_getElem? (i := 11) rfl), ⟨by decide +kernel, by decide +kernel, by decide +kernel⟩, by decide⟩
theorem mh_end : xMh yL_end cL_end 4 [(0, 9, 12, 15), (0, 9, 15, 25)] 3 := ⟨in_wsL_law0_r25 _ (List.mem_of_getElem? (i := 0) rfl), in_wsL_law0_r5 _ (List.mem_of_getElem? (i := 11) rfl), in_wsL_law0_r24 _ (List.mem_of_getElem? (i := 23) rfl), ⟨by decide +kernel, by decide +kernel, by decide +kernel⟩, by decide⟩
theorem mh_state : xMh yL_state cL_state 4 [(0, 9, 12, 15), (0, 9, 15, 25)] 3 := ⟨in_wsL_law0_r25 _ (List.mem_of_getElem? (i := 12) rfl), in_wsL_law0_r5 _ (List.mem_of_getElem? (i := 11) rfl), in_wsL_law0_r25 _ (List.mem_of_getElem? (i := 11) rfl), ⟨by decide +kernel, by decide +kernel, by decide +kernel⟩, by decide⟩
theorem mh_parent : xMh yL_parent cL_parent 4 [(0, 9, 12, 15), (0, 9, 15, 25)] 3 := ⟨in_wsL_law0_r26 _ (List.mem_of_getElem? (i := 0) rfl), in_wsL_law0_r5 _ (List.mem_of_getElem? (i := 11) rfl), in_wsL_law0_r25 _ (List.mem_of_getElem? (i := 23) rfl), ⟨by decide +kernel, by decide +kernel, by decide +kernel⟩, by decide⟩
theorem mh_depth : xMh yL_depth cL_depth 4 [(0, 9, 12, 15), (0, 9, 15, 25)] 3 := ⟨in_wsL_law0_r26 _ (List.mem_of_getElem? (i := 12) rfl), in_wsL_law0_r5 _ (List.mem_of_getElem? (i := 11) rfl), in_wsL_law0_r26 _ (List.mem_of_getElem? (i := 11) rfl), ⟨by decide +kernel, by decide +kernel, by decide +kernel⟩, by decide⟩
theorem mh_own : xMh yL_own cL_own 4 [(0, 9, 12, 15), (0, 9, 15, 25)] 3 := ⟨in_wsL_law0_r27 _ (List.mem_of_getElem? (i := 0) rfl), in_wsL_law0_r5 _ (List.mem_of_getElem? (i := 11) rfl), in_wsL_law0_r26 _ (List.mem_of_getElem? (i := 23) rfl), ⟨by decide +kernel, by decide +kernel, by decide +kernel⟩, by decide⟩
theorem mh_at : xMh yL_at cL_at 4 [(0, 9, 12, 15), (0, 9, 15, 25)] 3 := ⟨in_wsL_law0_r27 _ (List.mem_of_getElem? (i := 15) rfl), in_wsL_law0_r5 _ (List.mem_of_getElem? (i := 11) rfl), in_wsL_law0_r27 _ (List.mem_of_getElem? (i := 14) rfl), ⟨by decide +kernel, by decide +kernel, by decide +kernel⟩, by decide⟩
theorem mh_count : xMh yL_count cL_count 5 [(0, 10, 13, 15), (0, 10, 17, 25)] 4 := ⟨in_wsL_law0_r28 _ (List.mem_of_getElem? (i := 10) rfl), in_wsL_law0_r5 _ (List.mem_of_getElem? (i := 11) rfl), in_wsL_law0_r28 _ (List.mem_of_getElem? (i := 9) rfl), ⟨by decide +kernel, by decide +kernel, by decide +kernel⟩, by decide⟩
theorem mh_water : xMh yL_water cL_water 3 [(0, 8, 11, 15)] 2 := ⟨in_wsL_law0_r28 _ (List.mem_of_getElem? (i := 21) rfl), in_wsL_law0_r5 _ (List.mem_of_getElem? (i := 11) rfl), in_wsL_law0_r28 _ (List.mem_of_getElem? (i := 20) rfl), ⟨by decide +kernel, by decide +kernel, by decide +kernel⟩, by decide⟩
theorem mh_left : xMh yL_left cL_left 3 [(0, 8, 11, 15)] 2 := ⟨in_wsL_law0_r29 _ (List.mem_of_getElem? (i := 12) rfl), in_wsL_law0_r5 _ (List.mem_of_getElem? (i := 11) rfl), in_wsL_law0_r29 _ (List.mem_of_getElem? (i := 11) rfl), ⟨by decide +kernel, by decide +kernel, by decide +kernel⟩, by decide⟩
theorem mh_share : xMh yL_share cL_share 3 [(0, 7, 10, 15)] 2 := ⟨in_wsL_law0_r29 _ (List.mem_of_getElem? (i := 23) rfl), in_wsL_law0_r5 _ (List.mem_of_getElem? (i := 11) rfl), in_wsL_law0_r29 _ (List.mem_of_getElem? (i := 22) rfl), ⟨by decide +kernel, by decide +kernel, by decide +kernel⟩, by decide⟩
end
