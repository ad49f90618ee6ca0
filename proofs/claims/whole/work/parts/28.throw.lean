section XT
variable {p : Program} {l : Launch} {e : Env} {R : Room} {s : State} {m : MethodId} {args : Array Value} {below : List Frame} {meth : Method} {c : Code} {Q : State → Prop} {G : va_G} {tc : Nat → ClassId} {A : Nat → Prop} {cc : ByteArray} {nL : Nat} {own : String} {ret : Option FieldType} {d cells slots pc : Nat} {ws : va_W} {lv : List (Option Value)} {st : List Value} {thr : Option String} {w0 w1 : va_W} {n : Nat}
theorem xperm (is : List Nat) (w' : va_W) (hC : is.map (fun i => ws[i]?) = w'.map some) (hnd : va_nd is = true) (kk : xAT p l e R s m args below meth c Q G A nL cells slots w' lv pc st) : xAT p l e R s m args below meth c Q G A nL cells slots ws lv pc st := fun H locs ls hP hD hS hl => kk H locs ls (xcut_P hC hP) (hD.sub is hnd hC) hS hl
theorem xP_l {a b : va_W} {H : Heap} (h : va_P G vwCl (a ++ b) H) : va_P G vwCl a H := fun k q hk => h k q (by rw [List.getElem?_append_left (List.getElem?_eq_some_iff.mp hk).1]; exact hk)
theorem xP_r {a b : va_W} {H : Heap} (h : va_P G vwCl (a ++ b) H) : va_P G vwCl b H := fun k q hk => h (a.length + k) q (by rw [List.getElem?_append_right (Nat.le_add_right _ _), Nat.add_sub_cancel_left]; exact hk)
theorem xD_l {a b : va_W} {A0 : Nat → Prop} (h : va_D A0 (a ++ b)) : va_D A0 a := ⟨fun i j p q hi hj e => h.1 i j p q (by rw [List.getElem?_append_left (List.getElem?_eq_some_iff.mp hi).1]; exact hi) (by rw [List.getElem?_append_left (List.getElem?_eq_some_iff.mp hj).1]; exact hj) e, fun k q hk => h.2 k q (by rw [List.getElem?_append_left (List.getElem?_eq_some_iff.mp hk).1]; exact hk)⟩
theorem xD_r {a b : va_W} {A0 : Nat → Prop} (h : va_D A0 (a ++ b)) : va_D A0 b := ⟨fun i j p q hi hj e => Nat.add_left_cancel (h.1 (a.length + i) (a.length + j) p q (by rw [List.getElem?_append_right (Nat.le_add_right _ _), Nat.add_sub_cancel_left]; exact hi) (by rw [List.getElem?_append_right (Nat.le_add_right _ _), Nat.add_sub_cancel_left]; exact hj) e), fun k q hk => h.2 (a.length + k) q (by rw [List.getElem?_append_right (Nat.le_add_right _ _), Nat.add_sub_cancel_left]; exact hk)⟩
theorem xD_x {a b : va_W} {A0 : Nat → Prop} (h : va_D A0 (a ++ b)) {i j : Nat} {x y : Nat × va_E} (hi : a[i]? = some x) (hj : b[j]? = some y) : x.1 ≠ y.1 := fun e => by
  have hl := (List.getElem?_eq_some_iff.mp hi).1
  have := h.1 i (a.length + j) x y (by rw [List.getElem?_append_left hl]; exact hi) (by rw [List.getElem?_append_right (Nat.le_add_right _ _), Nat.add_sub_cancel_left]; exact hj) e
  omega
/-- a callee's cells as a block of the caller's world -/
theorem xblk {A0 : Nat → Prop} {pre w0 w1 post : va_W} {H H1 : Heap} (hP : va_P G vwCl (pre ++ (w0 ++ post)) H) (hD : va_D A0 (pre ++ (w0 ++ post)))
    (hk : ∀ q : Nat, q < H.size → ¬ va_A w0 H.size q → H1[q]? = H[q]?) (hF : ∀ q, va_A w0 H.size q → A0 q) (hP1 : va_P G vwCl w1 H1) (hD1 : va_D (va_A w0 H.size) w1) : va_P G vwCl (pre ++ (w1 ++ post)) H1 ∧ va_D A0 (pre ++ (w1 ++ post)) := by
  have ap1 : ∀ (k : Nat) (q : Nat × va_E), pre[k]? = some q → q.1 < H.size ∧ ¬ va_A w0 H.size q.1 := by
    intro k q hq
    have hl := (xP_l hP k q hq).lt
    refine ⟨hl, ?_⟩
    rintro (⟨k2, e2, h⟩ | h)
    · exact xD_x hD hq (j := k2) (y := (q.1, e2)) (by rw [List.getElem?_append_left (List.getElem?_eq_some_iff.mp h).1]; exact h) rfl
    · omega
  have ap2 : ∀ (k : Nat) (q : Nat × va_E), post[k]? = some q → q.1 < H.size ∧ ¬ va_A w0 H.size q.1 := by
    intro k q hq
    have hl := (xP_r (xP_r hP) k q hq).lt
    refine ⟨hl, ?_⟩
    rintro (⟨k2, e2, h⟩ | h)
    · exact xD_x (xD_r hD) h hq rfl
    · omega
  have hpo : ∀ (i j : Nat) (x y : Nat × va_E), w1[i]? = some x → post[j]? = some y → x.1 ≠ y.1 := fun i j x y hx hy e => (ap2 j y hy).2 (by rw [← e]; exact hD1.2 i x hx)
  refine ⟨va_P.app (fun k q hq => (xP_l hP k q hq).kept (hk q.1 (ap1 k q hq).1 (ap1 k q hq).2)) (va_P.app hP1 (fun k q hq => (xP_r (xP_r hP) k q hq).kept (hk q.1 (ap2 k q hq).1 (ap2 k q hq).2))), va_D.app (xD_l hD) (va_D.app (hD1.weaken (fun k q _ h => hF q.1 h)) (xD_r (xD_r hD)) hpo) ?_⟩
  intro i j x y hx hy e
  rcases Nat.lt_or_ge j w1.length with hj | hj
  · rw [List.getElem?_append_left hj] at hy
    exact (ap1 i x hx).2 (by rw [e]; exact hD1.2 j y hy)
  · rw [List.getElem?_append_right hj] at hy
    refine xD_x hD hx (j := w0.length + (j - w1.length)) (y := y) ?_ e
    rw [List.getElem?_append_right (Nat.le_add_right _ _), Nat.add_sub_cancel_left]
    exact hy
theorem xfreeB {A0 : Nat → Prop} {pre w0 post : va_W} {H0 H : Heap} {locs : List Loc} (hD : va_D A0 (pre ++ (w0 ++ post))) (hS : va_S A0 H0 H locs) (hA : ∀ q, H0.size ≤ q → A0 q) : ∀ q, va_A w0 H.size q → A0 q := by
  intro q h
  rcases h with ⟨k, e, h⟩ | h
  · exact (xD_l (xD_r hD)).2 k (q, e) h
  · exact hA q (Nat.le_trans hS.1 h)
theorem xprePreB (C : CX p R s m args meth c cc nL own ret G tc A d) {pre w0 post : va_W} {H : Heap} {locs : List Loc} {av : List Value} (hP : va_P G vwCl (pre ++ (w0 ++ post)) H) (hD : va_D A (pre ++ (w0 ++ post))) (hS : va_S A s.heap H locs) : ∀ U : State, U.heap = H → s.WarmedH U.vm → xPre G tc av w0 H.size av.toArray U := fun U hU hW =>
  ⟨rfl, by rw [hU], by rw [hU]; exact xP_l (xP_r hP), (xD_l (xD_r hD)).weaken (fun _ _ _ _ => trivial), xE.warm hW C.E, by
    rw [hU]
    exact ((C.Z.kept hS.2.1).narrow (xfreeB hD hS C.al)).moved hW.alike⟩
theorem xcallViB (C : CX p R s m args meth c cc nL own ret G tc A d) {pre w0 w1 post : va_W} {y : MethodName} {cy : ByteArray} {ny n ci idx d' a : Nat} {ry : Option FieldType} {As : List Value} {fs : List Value} {r : Int32} (hm : xMv y cy ny ry n ci) (hk : Cond.methodLink own idx y ∈ wsL_law) (M : kI l y (xw y cy ny ry) d' G tc (.ref a :: As) w0 r w1) (hdg : decode cc pc = .ok (.invokevirtual idx, 3)) (q0 : Nat) (he : w0[q0]? = some (a, .inr (ci, fs))) {st0 : List Value} (hn : As.length = n) (hd : d' + 1 ≤ d) (hs : st0 = As.reverse ++ .ref a :: st) (hcat : (st.map fun v => v.category).sum ≤ 8) (hcs : cells ≤ R.cells ∧ slots ≤ R.slots) (kk : xAT p l e R s m args below meth c Q G A nL cells slots (pre ++ (w1 ++ post)) lv (pc + 3) (.int r :: st)) : xAT p l e R s m args below meth c Q G A nL cells slots (pre ++ (w0 ++ post)) lv pc st0 := by
  intro H locs ls hP hD hS hl
  have hF := xfreeB hD hS C.al
  obtain ⟨T9, N9, hc9⟩ := hm.2.2.2.2.2.2
  have hrec := va_recv C.K (xP_l (xP_r hP)) hc9 he
  refine va_calli (va_runV (As := As) (rest := st) C.call (M H.size) (xcwV C hm hk hd) ⟨xPre_blind, hrec, xprePreB C hP hD hS⟩ rfl hn (hl.1) hs (lv_room hcat) hdg ⟨by rw [Nat.add_zero]; exact hcs.1, by rw [Nat.add_zero]; exact hcs.2⟩) hS (fun q _ h => hF q h) hF (fun r9 u t H1 locs1 ht hvm hw9 hB hz1 hk1 hS1 => ?_)
  · subst hw9
    obtain ⟨hP1, hD1⟩ := hB
    rw [ht] at hP1
    obtain ⟨hP2, hD2⟩ := xblk hP hD hk1 hF hP1 hD1
    exact kk H1 locs1 ls hP2 hD2 hS1 hl
theorem xcallVlB (C : CX p R s m args meth c cc nL own ret G tc A d) {pre w0 w1 post : va_W} {y : MethodName} {cy : ByteArray} {ny n ci idx d' a : Nat} {ry : Option FieldType} {As : List Value} {fs : List Value} {r : Int64} (hm : xMv y cy ny ry n ci) (hk : Cond.methodLink own idx y ∈ wsL_law) (M : kL l y (xw y cy ny ry) d' G tc (.ref a :: As) w0 r w1) (hdg : decode cc pc = .ok (.invokevirtual idx, 3)) (q0 : Nat) (he : w0[q0]? = some (a, .inr (ci, fs))) {st0 : List Value} (hn : As.length = n) (hd : d' + 1 ≤ d) (hs : st0 = As.reverse ++ .ref a :: st) (hcat : (st.map fun v => v.category).sum ≤ 8) (hcs : cells ≤ R.cells ∧ slots ≤ R.slots) (kk : xAT p l e R s m args below meth c Q G A nL cells slots (pre ++ (w1 ++ post)) lv (pc + 3) (.long r :: st)) : xAT p l e R s m args below meth c Q G A nL cells slots (pre ++ (w0 ++ post)) lv pc st0 := by
  intro H locs ls hP hD hS hl
  have hF := xfreeB hD hS C.al
  obtain ⟨T9, N9, hc9⟩ := hm.2.2.2.2.2.2
  have hrec := va_recv C.K (xP_l (xP_r hP)) hc9 he
  refine va_calll (va_runV (As := As) (rest := st) C.call (M H.size) (xcwV C hm hk hd) ⟨xPre_blind, hrec, xprePreB C hP hD hS⟩ rfl hn (hl.1) hs (lv_room hcat) hdg ⟨by rw [Nat.add_zero]; exact hcs.1, by rw [Nat.add_zero]; exact hcs.2⟩) hS (fun q _ h => hF q h) hF (fun r9 u t H1 locs1 ht hvm hw9 hB hz1 hk1 hS1 => ?_)
  · subst hw9
    obtain ⟨hP1, hD1⟩ := hB
    rw [ht] at hP1
    obtain ⟨hP2, hD2⟩ := xblk hP hD hk1 hF hP1 hD1
    exact kk H1 locs1 ls hP2 hD2 hS1 hl
theorem xcallVdB (C : CX p R s m args meth c cc nL own ret G tc A d) {pre w0 w1 post : va_W} {y : MethodName} {cy : ByteArray} {ny n ci idx d' a : Nat} {ry : Option FieldType} {As : List Value} {fs : List Value} {r : UInt64} (hm : xMv y cy ny ry n ci) (hk : Cond.methodLink own idx y ∈ wsL_law) (M : kD l y (xw y cy ny ry) d' G tc (.ref a :: As) w0 r w1) (hdg : decode cc pc = .ok (.invokevirtual idx, 3)) (q0 : Nat) (he : w0[q0]? = some (a, .inr (ci, fs))) {st0 : List Value} (hn : As.length = n) (hd : d' + 1 ≤ d) (hs : st0 = As.reverse ++ .ref a :: st) (hcat : (st.map fun v => v.category).sum ≤ 8) (hcs : cells ≤ R.cells ∧ slots ≤ R.slots) (kk : xAT p l e R s m args below meth c Q G A nL cells slots (pre ++ (w1 ++ post)) lv (pc + 3) (.double r :: st)) : xAT p l e R s m args below meth c Q G A nL cells slots (pre ++ (w0 ++ post)) lv pc st0 := by
  intro H locs ls hP hD hS hl
  have hF := xfreeB hD hS C.al
  obtain ⟨T9, N9, hc9⟩ := hm.2.2.2.2.2.2
  have hrec := va_recv C.K (xP_l (xP_r hP)) hc9 he
  refine va_calld (va_runV (As := As) (rest := st) C.call (M H.size) (xcwV C hm hk hd) ⟨xPre_blind, hrec, xprePreB C hP hD hS⟩ rfl hn (hl.1) hs (lv_room hcat) hdg ⟨by rw [Nat.add_zero]; exact hcs.1, by rw [Nat.add_zero]; exact hcs.2⟩) hS (fun q _ h => hF q h) hF (fun r9 u t H1 locs1 ht hvm hw9 hB hz1 hk1 hS1 => ?_)
  · subst hw9
    obtain ⟨hP1, hD1⟩ := hB
    rw [ht] at hP1
    obtain ⟨hP2, hD2⟩ := xblk hP hD hk1 hF hP1 hD1
    exact kk H1 locs1 ls hP2 hD2 hS1 hl
theorem xcallVvB (C : CX p R s m args meth c cc nL own ret G tc A d) {pre w0 w1 post : va_W} {y : MethodName} {cy : ByteArray} {ny n ci idx d' a : Nat} {ry : Option FieldType} {As : List Value} {fs : List Value} (hm : xMv y cy ny ry n ci) (hk : Cond.methodLink own idx y ∈ wsL_law) (M : kV l y (xw y cy ny ry) d' G tc (.ref a :: As) w0 w1) (hdg : decode cc pc = .ok (.invokevirtual idx, 3)) (q0 : Nat) (he : w0[q0]? = some (a, .inr (ci, fs))) {st0 : List Value} (hn : As.length = n) (hd : d' + 1 ≤ d) (hs : st0 = As.reverse ++ .ref a :: st) (hcat : (st.map fun v => v.category).sum ≤ 8) (hcs : cells ≤ R.cells ∧ slots ≤ R.slots) (kk : xAT p l e R s m args below meth c Q G A nL cells slots (pre ++ (w1 ++ post)) lv (pc + 3) st) : xAT p l e R s m args below meth c Q G A nL cells slots (pre ++ (w0 ++ post)) lv pc st0 := by
  intro H locs ls hP hD hS hl
  have hF := xfreeB hD hS C.al
  obtain ⟨T9, N9, hc9⟩ := hm.2.2.2.2.2.2
  have hrec := va_recv C.K (xP_l (xP_r hP)) hc9 he
  refine va_callv (va_runV (As := As) (rest := st) C.call (M H.size) (xcwV C hm hk hd) ⟨xPre_blind, hrec, xprePreB C hP hD hS⟩ rfl hn (hl.1) hs (lv_room hcat) hdg ⟨by rw [Nat.add_zero]; exact hcs.1, by rw [Nat.add_zero]; exact hcs.2⟩) hS (fun q _ h => hF q h) hF (fun u t H1 locs1 ht hvm hw9 hB hz1 hk1 hS1 => ?_)
  · obtain ⟨hP1, hD1⟩ := hB
    rw [ht] at hP1
    obtain ⟨hP2, hD2⟩ := xblk hP hD hk1 hF hP1 hD1
    exact kk H1 locs1 ls hP2 hD2 hS1 hl
abbrev xTi (below : List Frame) (args : Array Value) (s : State) (G : va_G) (A : Nat → Prop) (w0 : va_W) (n : Nat) (thr : Option String) (r : Int32) (w1 : va_W) : State → Prop := vx_MQ below (va_Qi (fun r' (_ : Unit) => thr = none ∧ r' = r) (xB G A w1) A) (xX G A thr w0) args s n (6 * n) A
abbrev xTd (below : List Frame) (args : Array Value) (s : State) (G : va_G) (A : Nat → Prop) (w0 : va_W) (n : Nat) (thr : Option String) (r : UInt64) (w1 : va_W) : State → Prop := vx_MQ below (va_Qd (fun r' (_ : Unit) => thr = none ∧ r' = r) (xB G A w1) A) (xX G A thr w0) args s n (6 * n) A
abbrev xTv (below : List Frame) (args : Array Value) (s : State) (G : va_G) (A : Nat → Prop) (w0 : va_W) (n : Nat) (thr : Option String) (w1 : va_W) : State → Prop := vx_MQ below (va_Qv (fun (_ : Unit) => thr = none) (xB G A w1) A) (xX G A thr w0) args s n (6 * n) A
theorem xtiret (C : CX p R s m args meth c cc nL own (some .int) G tc A d) {v r : Int32} (hdg : decode cc pc = .ok (.ireturn, 1)) (hc : cells ≤ n) (hs : slots ≤ 6 * n) (hv : v = r) (ht : thr = none) (hw : ws = w1) : xAT p l e R s m args below meth c (xTi below args s G A w0 n thr r w1) G A nL cells slots ws lv pc [.int v] := by
  subst hv
  subst hw
  exact fun H locs ls hP hD hS hl => W.widen hc hs (vx_ret (W.iret C.1 C.2.1 C.rt (fun t ht9 hW => ⟨⟨v, (), rfl, ⟨ht, rfl⟩, by rw [ht9]; exact hP, hD⟩, hS.F ht9⟩) hS.2.2 hdg C.lock))
theorem xtzret (C : CX p R s m args meth c cc nL own (some .boolean) G tc A d) {v r : Int32} (hdg : decode cc pc = .ok (.ireturn, 1)) (hc : cells ≤ n) (hs : slots ≤ 6 * n) (hn : narrow .boolean (.int v) = .int v) (hv : v = r) (ht : thr = none) (hw : ws = w1) : xAT p l e R s m args below meth c (xTi below args s G A w0 n thr r w1) G A nL cells slots ws lv pc [.int v] := by
  subst hv
  subst hw
  exact fun H locs ls hP hD hS hl => W.widen hc hs (vx_ret (W.zret C.1 C.2.1 C.rt hn (fun t ht9 hW => ⟨⟨v, (), rfl, ⟨ht, rfl⟩, by rw [ht9]; exact hP, hD⟩, hS.F ht9⟩) hS.2.2 hdg C.lock))
theorem xtdret (C : CX p R s m args meth c cc nL own (some .double) G tc A d) {v r : UInt64} (hdg : decode cc pc = .ok (.dreturn, 1)) (hc : cells ≤ n) (hs : slots ≤ 6 * n) (hv : v = r) (ht : thr = none) (hw : ws = w1) : xAT p l e R s m args below meth c (xTd below args s G A w0 n thr r w1) G A nL cells slots ws lv pc [.double v] := by
  subst hv
  subst hw
  exact fun H locs ls hP hD hS hl => W.widen hc hs (vx_ret (W.dret C.1 C.2.1 C.rt (fun t ht9 hW => ⟨⟨v, (), rfl, ⟨ht, rfl⟩, by rw [ht9]; exact hP, hD⟩, hS.F ht9⟩) hS.2.2 hdg C.lock))
theorem xtvret (C : CX p R s m args meth c cc nL own none G tc A d) (hdg : decode cc pc = .ok (.return_, 1)) (hc : cells ≤ n) (hs : slots ≤ 6 * n) (ht : thr = none) (hw : ws = w1) : xAT p l e R s m args below meth c (xTv below args s G A w0 n thr w1) G A nL cells slots ws lv pc [] := by
  skip
  subst hw
  exact fun H locs ls hP hD hS hl => W.widen hc hs (vx_ret (W.vret C.1 C.2.1 C.rt (fun t ht9 hW => ⟨⟨(), rfl, ht, by rw [ht9]; exact hP, hD⟩, hS.F ht9⟩) hS.2.2 hdg C.lock))
def xNm : List String := ["java/lang/RuntimeException", "java/lang/Exception"]
def xBad (cls : String) : List Cond := [.castable cls cls, .declares (Bundle.initS "java/lang/RuntimeException"), .declares (Bundle.initS "java/lang/Exception"), .declares (Bundle.initS Bundle.tN)]
def xTh (cls : String) (ik ic : Nat) : Prop := cls ∈ xCst ∧ Cond.classLink RX5 ik cls ∈ wsL_law ∧ Cond.initialized cls ∈ wsL_law ∧ (∀ w ∈ (vx_atS RX5 ic cls xNm).filter goodWord, w ∈ wsL_law) ∧ (∀ w ∈ (vx_atS RX5 ic cls xNm).filter (fun w => !goodWord w), w ∈ xBad cls) ∧ (∀ w ∈ Cond.classLink RX5 ik cls :: Cond.initialized cls :: vx_atS RX5 ic cls xNm, vx_ot w = true) ∧ Bundle.fit cls = true
set_option maxRecDepth 20000 in
theorem th_IA : xTh xIA 52 56 := ⟨by decide +kernel, in_wsL_law0_r5 _ (List.mem_of_getElem? (i := 19) rfl), in_wsL_law0_r5 _ (List.mem_of_getElem? (i := 20) rfl), fun w h => List.mem_append_left _ (List.mem_append_left _ (List.mem_append_right _ h)), by decide +kernel, by decide +kernel, by decide +kernel⟩
set_option maxRecDepth 20000 in
theorem th_IS : xTh xIS 63 67 := ⟨by decide +kernel, in_wsL_law0_r5 _ (List.mem_of_getElem? (i := 21) rfl), in_wsL_law0_r5 _ (List.mem_of_getElem? (i := 22) rfl), fun w h => List.mem_append_left _ (List.mem_append_right _ h), by decide +kernel, by decide +kernel, by decide +kernel⟩
set_option maxRecDepth 20000 in
theorem th_IO : xTh xIO 159 163 := ⟨by decide +kernel, in_wsL_law0_r8 _ (List.mem_of_getElem? (i := 9) rfl), in_wsL_law0_r8 _ (List.mem_of_getElem? (i := 10) rfl), fun w h => List.mem_append_right _ h, by decide +kernel, by decide +kernel, by decide +kernel⟩
theorem xbad_h (C : CX p R s m args meth c cc nL own ret G tc A d) {cls : String} (h : cls ∈ xCst) : ∀ w ∈ xBad cls, w.before args s = true := by
  intro w hw
  have hE := C.E
  simp only [xBad, List.mem_cons, List.mem_nil_iff, or_false] at hw
  rcases hw with rfl | rfl | rfl | rfl
  · exact va_Nw.use rfl (hE.2.2.2.2.1 cls h)
  · exact va_Nw.use rfl (hE.2.2.2.2.2.2 _ (List.mem_of_getElem? (i := 0) rfl))
  · exact va_Nw.use rfl (hE.2.2.2.2.2.2 _ (List.mem_of_getElem? (i := 1) rfl))
  · exact va_Nw.use rfl (hE.2.2.2.2.2.2 _ (List.mem_of_getElem? (i := 2) rfl))
theorem xthrow (C : CX p R s m args meth c cc nL RX5 ret G tc A d) (hl9 : l.stackTraces = false) (hT : ∀ x ∈ c.exceptionTable.toList, False) {Qc : Array Value → State → Outcome → State → Prop} {cls text : String} {ik ix ic : Nat} (hth : xTh cls ik ic) (hsx : (ix, text) ∈ xStr)
    (d0 : decode cc pc = .ok (.new ik, 3)) (d3 : decode cc (pc + 3) = .ok (.dup, 1)) (d4 : decode cc (pc + 4) = .ok (.ldc ix, 2)) (d6 : decode cc (pc + 6) = .ok (.invokespecial ic, 3)) (d9 : decode cc (pc + 9) = .ok (.athrow, 1))
    (hst : (st.map fun v => v.category).sum ≤ 8) (hR : cells + 1 ≤ R.cells ∧ slots + 6 ≤ R.slots) (hc : cells + 1 ≤ n) (hs : slots + 6 ≤ 6 * n) (hthr : thr = some cls) (hw : ws = w0) : xAT p l e R s m args below meth c (vx_MQ below Qc (xX G A thr w0) args s n (6 * n) A) G A nL cells slots ws lv pc st := by
  subst hw
  intro H locs ls hP hD hS hl
  obtain ⟨t1, t2, t3, t4, t5, t6, t7⟩ := hth
  obtain ⟨sa, hsa⟩ := C.E.2.2.2.1 _ hsx
  have hfr := C.room.1
  have hlo := C.room.2
  refine vx_throwS (names := xNm) (sa := sa) C.1 C.2.1 hl9 C.ow t7 (by decide +kernel) (C.w t2) (C.w t3) hsa (vx_hat (fun w h => C.w (t4 w h)) t5 (xbad_h C t1)) t6 C.Z.1 C.Z.2 hS (hl.1.trans C.2.2.1.symm) d0 d3 d4 d6 d9 (fun x hx => (hT x hx).elim) (by show 2 + 3 < R.frames; omega) (by show (st.map fun v => v.category).sum + (13 * (2 + 1) + 43) ≤ R.locals; omega) hR.1 hR.2 C.lock ?_ hS.2.2 hc hs
  intro t hvm hsz hq
  have hkeep : ∀ (k : Nat) (q : Nat × va_E), ws[k]? = some q → t.heap[q.1]? = H[q.1]? := fun k q hk => hq q.1 ((hP k q hk).lt)
  exact ⟨(), trivial, ⟨hthr, hP.kept hkeep, hD⟩, Nat.le_trans hS.1 hsz, fun q h1 h2 => (hq q (Nat.lt_of_lt_of_le h1 hS.1)).trans (hS.2.1 q h1 h2)⟩
theorem tI_of {y : MethodName} {cy : ByteArray} {ny : Nat} {rt : Option FieldType} {av : List Value} {r : Int32} (lv : List (Option Value)) (k : Nat) (hy : plainName y.cls = true) (hn : (lg_sl av).length ≤ ny) (hlv : xargs av ++ List.replicate k none = lv)
    (body : ∀ p e s m args below meth c A, CX p (xR d n (6 * n)) s m args meth c cy ny y.cls rt G tc A d → (∀ x ∈ c.exceptionTable.toList, False) → xAT p l e (xR d n (6 * n)) s m args below meth c (xTi below args s G A w0 n thr r w1) G A ny 0 0 w0 lv 0 []) : tI l y (xw y cy ny rt) d G tc av w0 n thr r w1 := by
  intro sz
  refine vx_ofW (cc := cy) (maxL := ny) (ret := rt) hy rfl ?_
  intro p e s m args below meth c s₁ B hml hT hv
  obtain ⟨rfl, hsz, hP, hD0, hE, hZ⟩ := hv
  subst hsz
  have hts := atoms_spec (ws := xw y cy ny rt) B.pre
  have C : CX p (xR d n (6 * n)) s m av.toArray meth c cy ny y.cls rt G tc (va_A w0 s.heap.size) d := ⟨B.exec, B.bytes, hml, findClass_of_methodNamed B.named, fun w hw => hts w (List.mem_cons_of_mem _ hw), B.returns, B.notSynchronized, hE, hZ, fun q h => Or.inr h, Nat.le_refl _, Nat.le_refl _⟩
  obtain ⟨ls, he, hl⟩ := xentry m av ny hn (lv := lv) (fun i v h => by
    subst hlv
    have := xargs_mem k av 0 i v h
    rwa [Nat.zero_add] at this)
  rw [he]
  exact body p e s m _ below meth c _ C hT s.heap [] ls hP (hD0.self (sz := s.heap.size)) va_S.rf hl
theorem tD_of {y : MethodName} {cy : ByteArray} {ny : Nat} {rt : Option FieldType} {av : List Value} {r : UInt64} (lv : List (Option Value)) (k : Nat) (hy : plainName y.cls = true) (hn : (lg_sl av).length ≤ ny) (hlv : xargs av ++ List.replicate k none = lv)
    (body : ∀ p e s m args below meth c A, CX p (xR d n (6 * n)) s m args meth c cy ny y.cls rt G tc A d → (∀ x ∈ c.exceptionTable.toList, False) → xAT p l e (xR d n (6 * n)) s m args below meth c (xTd below args s G A w0 n thr r w1) G A ny 0 0 w0 lv 0 []) : tD l y (xw y cy ny rt) d G tc av w0 n thr r w1 := by
  intro sz
  refine vx_ofW (cc := cy) (maxL := ny) (ret := rt) hy rfl ?_
  intro p e s m args below meth c s₁ B hml hT hv
  obtain ⟨rfl, hsz, hP, hD0, hE, hZ⟩ := hv
  subst hsz
  have hts := atoms_spec (ws := xw y cy ny rt) B.pre
  have C : CX p (xR d n (6 * n)) s m av.toArray meth c cy ny y.cls rt G tc (va_A w0 s.heap.size) d := ⟨B.exec, B.bytes, hml, findClass_of_methodNamed B.named, fun w hw => hts w (List.mem_cons_of_mem _ hw), B.returns, B.notSynchronized, hE, hZ, fun q h => Or.inr h, Nat.le_refl _, Nat.le_refl _⟩
  obtain ⟨ls, he, hl⟩ := xentry m av ny hn (lv := lv) (fun i v h => by
    subst hlv
    have := xargs_mem k av 0 i v h
    rwa [Nat.zero_add] at this)
  rw [he]
  exact body p e s m _ below meth c _ C hT s.heap [] ls hP (hD0.self (sz := s.heap.size)) va_S.rf hl
theorem tV_of {y : MethodName} {cy : ByteArray} {ny : Nat} {rt : Option FieldType} {av : List Value} (lv : List (Option Value)) (k : Nat) (hy : plainName y.cls = true) (hn : (lg_sl av).length ≤ ny) (hlv : xargs av ++ List.replicate k none = lv)
    (body : ∀ p e s m args below meth c A, CX p (xR d n (6 * n)) s m args meth c cy ny y.cls rt G tc A d → (∀ x ∈ c.exceptionTable.toList, False) → xAT p l e (xR d n (6 * n)) s m args below meth c (xTv below args s G A w0 n thr w1) G A ny 0 0 w0 lv 0 []) : tV l y (xw y cy ny rt) d G tc av w0 n thr w1 := by
  intro sz
  refine vx_ofW (cc := cy) (maxL := ny) (ret := rt) hy rfl ?_
  intro p e s m args below meth c s₁ B hml hT hv
  obtain ⟨rfl, hsz, hP, hD0, hE, hZ⟩ := hv
  subst hsz
  have hts := atoms_spec (ws := xw y cy ny rt) B.pre
  have C : CX p (xR d n (6 * n)) s m av.toArray meth c cy ny y.cls rt G tc (va_A w0 s.heap.size) d := ⟨B.exec, B.bytes, hml, findClass_of_methodNamed B.named, fun w hw => hts w (List.mem_cons_of_mem _ hw), B.returns, B.notSynchronized, hE, hZ, fun q h => Or.inr h, Nat.le_refl _, Nat.le_refl _⟩
  obtain ⟨ls, he, hl⟩ := xentry m av ny hn (lv := lv) (fun i v h => by
    subst hlv
    have := xargs_mem k av 0 i v h
    rwa [Nat.zero_add] at this)
  rw [he]
  exact body p e s m _ below meth c _ C hT s.heap [] ls hP (hD0.self (sz := s.heap.size)) va_S.rf hl
theorem xprop (C : CX p R s m args meth c cc nL own ret G tc A d) (hT : ∀ x ∈ c.exceptionTable.toList, False) {Qc : Array Value → State → Outcome → State → Prop} {y : MethodName} {cy : ByteArray} {ny k ci idx d' a n' : Nat} {ry : Option FieldType} {As : List Value} {fs : List Value} {wc wd : va_W} {thr' : Option String} (hm : xMv y cy ny ry k ci) (hk : Cond.methodLink own idx y ∈ wsL_law) (M : tV l y (xw y cy ny ry) d' G tc (.ref a :: As) wc n' thr' wd) (hdg : decode cc pc = .ok (.invokevirtual idx, 3)) (q0 : Nat) (he : ws[q0]? = some (a, .inr (ci, fs))) (is : List Nat) (w' : va_W) {st0 : List Value} (hC : is.map (fun i => ws[i]?) = wc.map some) (hnd : va_nd is = true) (ha : wd.map Prod.fst = wc.map Prod.fst) (hw : xrep ws is wd = w') (hn : As.length = k) (hd : d' + 1 ≤ d) (hs : st0 = As.reverse ++ .ref a :: st) (hcat : (st.map fun v => v.category).sum ≤ 8) (hcs : cells + n' ≤ R.cells ∧ slots + 6 * n' ≤ R.slots) (hcn : cells + n' ≤ n) (hsn : slots + 6 * n' ≤ 6 * n) (hx : ∀ E, thr' = some E → thr = some E) (hww : ws = w0)
    (kk : thr' = none → xAT p l e R s m args below meth c (vx_MQ below Qc (xX G A thr w0) args s n (6 * n) A) G A nL (cells + n') (slots + 6 * n') w' lv (pc + 3) st) : xAT p l e R s m args below meth c (vx_MQ below Qc (xX G A thr w0) args s n (6 * n) A) G A nL cells slots ws lv pc st0 := by
  intro H locs ls hP hD hS hl
  have hF := va_free hD hS C.al is hC
  obtain ⟨T9, N9, hc9⟩ := hm.2.2.2.2.2.2
  have hrec := va_recv C.K hP hc9 he
  refine vx_callv (vx_runV (As := As) (rest := st) C.call (M H.size) (xcwV C hm hk hd) ⟨xPre_blind, hrec, xprePre C hP hD hS hC hnd⟩ rfl hn (hl.1) hs (lv_room hcat) hdg hcs) hS (fun q _ h => hF q h) hF (fun q _ h => hF q h) (fun E ce q9 u t H1 locs1 ht hvm _ hB hz1 hk1 hS1 hce hcv hcl => ?_) (fun u t H1 locs1 ht hvm hw9 hB hz1 hk1 hS1 => ?_)
  · obtain ⟨hE, hP1, hD1⟩ := hB
    rw [ht] at hP1
    obtain ⟨hP2, hD2⟩ := xjoin hP hD is hC rfl hk1 hF hP1 hD1
    rw [xrep_self is wc ws hC] at hP2 hD2
    subst hww
    refine vx_out (fun x hx => (hT x hx).elim) C.lock hce hcv hcl (fun t2 ht2 _ => ⟨(), trivial, ⟨hx E hE, by rw [ht2]; exact hP2, hD2⟩, hS1.F ht2⟩) hS1.2.2 hcn hsn
  · obtain ⟨hP1, hD1⟩ := hB
    rw [ht] at hP1
    obtain ⟨hP2, hD2⟩ := xjoin hP hD is hC ha hk1 hF hP1 hD1
    rw [hw] at hP2 hD2
    exact kk hw9 H1 locs1 ls hP2 hD2 hS1 hl
end XT
