section XM
variable {p : Program} {l : Launch} {e : Env} {R : Room} {s : State} {m : MethodId} {args : Array Value} {below : List Frame} {meth : Method} {c : Code} {Q : State → Prop} {G : va_G} {tc : Nat → ClassId} {A : Nat → Prop} {cc : ByteArray} {nL : Nat} {own : String} {ret : Option FieldType} {d cells slots pc : Nat} {ws : va_W} {lv : List (Option Value)} {st : List Value}
theorem xmmin (C : CX p R s m args meth c cc nL own ret G tc A d) {x y : Int32} {idx : Nat} (hdg : decode cc pc = .ok (.invokestatic idx, 3)) (hk : Cond.methodLink own idx Lib.Math.min.name ∈ wsL_law) (hcat : (st.map fun v => v.category).sum ≤ 8) (hcs : cells ≤ R.cells ∧ slots ≤ R.slots) (kk : xAT p l e R s m args below meth c Q G A nL cells slots ws lv (pc + 3) (.int (if y < x then y else x) :: st)) : xAT p l e R s m args below meth c Q G A nL cells slots ws lv pc (.int y :: .int x :: st) := fun H locs ls hP hD hS hl => va_mmin C.1 C.2.1 (C.2.2.1.trans hl.1.symm) C.ow (C.w hk) (C.w (in_wsL_law0_r18 _ (List.mem_of_getElem? (i := 5) rfl))) (C.w (in_wsL_law0_r18 _ (List.mem_of_getElem? (i := 6) rfl))) (C.w (in_wsL_law0_r18 _ (List.mem_of_getElem? (i := 7) rfl))) (by have := C.room.1; omega) (by have := C.room.2; omega) hcs.1 hcs.2 hdg (kk H locs ls hP hD hS hl)
theorem xmmax (C : CX p R s m args meth c cc nL own ret G tc A d) {x y : Int32} {idx : Nat} (hdg : decode cc pc = .ok (.invokestatic idx, 3)) (hk : Cond.methodLink own idx Lib.Math.max.name ∈ wsL_law) (hcat : (st.map fun v => v.category).sum ≤ 8) (hcs : cells ≤ R.cells ∧ slots ≤ R.slots) (kk : xAT p l e R s m args below meth c Q G A nL cells slots ws lv (pc + 3) (.int (if x < y then y else x) :: st)) : xAT p l e R s m args below meth c Q G A nL cells slots ws lv pc (.int y :: .int x :: st) := fun H locs ls hP hD hS hl => va_mmax C.1 C.2.1 (C.2.2.1.trans hl.1.symm) C.ow (C.w hk) (C.w (in_wsL_law0_r20 _ (List.mem_of_getElem? (i := 14) rfl))) (C.w (in_wsL_law0_r18 _ (List.mem_of_getElem? (i := 6) rfl))) (C.w (in_wsL_law0_r20 _ (List.mem_of_getElem? (i := 15) rfl))) (by have := C.room.1; omega) (by have := C.room.2; omega) hcs.1 hcs.2 hdg (kk H locs ls hP hD hS hl)
theorem xfg_0 {l0 : Option Value} {r : List (Option Value)} (k : xAT p l e R s m args below meth c Q G A nL cells slots ws (none :: r) pc st) : xAT p l e R s m args below meth c Q G A nL cells slots ws (l0 :: r) pc st := xlvw (fun j v h => by
  by_cases e : j = 0
  · subst e; exact absurd h (by simp)
  · have h1 : (l0 :: r).set 0 none = none :: r := rfl
    rw [← h1, List.getElem?_set_ne (fun h => e h.symm)] at h
    exact h) k
theorem xfg_1 {l0 l1 : Option Value} {r : List (Option Value)} (k : xAT p l e R s m args below meth c Q G A nL cells slots ws (l0 :: none :: r) pc st) : xAT p l e R s m args below meth c Q G A nL cells slots ws (l0 :: l1 :: r) pc st := xlvw (fun j v h => by
  by_cases e : j = 1
  · subst e; exact absurd h (by simp)
  · have h1 : (l0 :: l1 :: r).set 1 none = l0 :: none :: r := rfl
    rw [← h1, List.getElem?_set_ne (fun h => e h.symm)] at h
    exact h) k
theorem xfg_2 {l0 l1 l2 : Option Value} {r : List (Option Value)} (k : xAT p l e R s m args below meth c Q G A nL cells slots ws (l0 :: l1 :: none :: r) pc st) : xAT p l e R s m args below meth c Q G A nL cells slots ws (l0 :: l1 :: l2 :: r) pc st := xlvw (fun j v h => by
  by_cases e : j = 2
  · subst e; exact absurd h (by simp)
  · have h1 : (l0 :: l1 :: l2 :: r).set 2 none = l0 :: l1 :: none :: r := rfl
    rw [← h1, List.getElem?_set_ne (fun h => e h.symm)] at h
    exact h) k
theorem xfg_3 {l0 l1 l2 l3 : Option Value} {r : List (Option Value)} (k : xAT p l e R s m args below meth c Q G A nL cells slots ws (l0 :: l1 :: l2 :: none :: r) pc st) : xAT p l e R s m args below meth c Q G A nL cells slots ws (l0 :: l1 :: l2 :: l3 :: r) pc st := xlvw (fun j v h => by
  by_cases e : j = 3
  · subst e; exact absurd h (by simp)
  · have h1 : (l0 :: l1 :: l2 :: l3 :: r).set 3 none = l0 :: l1 :: l2 :: none :: r := rfl
    rw [← h1, List.getElem?_set_ne (fun h => e h.symm)] at h
    exact h) k
theorem xfg_4 {l0 l1 l2 l3 l4 : Option Value} {r : List (Option Value)} (k : xAT p l e R s m args below meth c Q G A nL cells slots ws (l0 :: l1 :: l2 :: l3 :: none :: r) pc st) : xAT p l e R s m args below meth c Q G A nL cells slots ws (l0 :: l1 :: l2 :: l3 :: l4 :: r) pc st := xlvw (fun j v h => by
  by_cases e : j = 4
  · subst e; exact absurd h (by simp)
  · have h1 : (l0 :: l1 :: l2 :: l3 :: l4 :: r).set 4 none = l0 :: l1 :: l2 :: l3 :: none :: r := rfl
    rw [← h1, List.getElem?_set_ne (fun h => e h.symm)] at h
    exact h) k
theorem xfg_5 {l0 l1 l2 l3 l4 l5 : Option Value} {r : List (Option Value)} (k : xAT p l e R s m args below meth c Q G A nL cells slots ws (l0 :: l1 :: l2 :: l3 :: l4 :: none :: r) pc st) : xAT p l e R s m args below meth c Q G A nL cells slots ws (l0 :: l1 :: l2 :: l3 :: l4 :: l5 :: r) pc st := xlvw (fun j v h => by
  by_cases e : j = 5
  · subst e; exact absurd h (by simp)
  · have h1 : (l0 :: l1 :: l2 :: l3 :: l4 :: l5 :: r).set 5 none = l0 :: l1 :: l2 :: l3 :: l4 :: none :: r := rfl
    rw [← h1, List.getElem?_set_ne (fun h => e h.symm)] at h
    exact h) k
theorem xfg_6 {l0 l1 l2 l3 l4 l5 l6 : Option Value} {r : List (Option Value)} (k : xAT p l e R s m args below meth c Q G A nL cells slots ws (l0 :: l1 :: l2 :: l3 :: l4 :: l5 :: none :: r) pc st) : xAT p l e R s m args below meth c Q G A nL cells slots ws (l0 :: l1 :: l2 :: l3 :: l4 :: l5 :: l6 :: r) pc st := xlvw (fun j v h => by
  by_cases e : j = 6
  · subst e; exact absurd h (by simp)
  · have h1 : (l0 :: l1 :: l2 :: l3 :: l4 :: l5 :: l6 :: r).set 6 none = l0 :: l1 :: l2 :: l3 :: l4 :: l5 :: none :: r := rfl
    rw [← h1, List.getElem?_set_ne (fun h => e h.symm)] at h
    exact h) k
theorem xfg_7 {l0 l1 l2 l3 l4 l5 l6 l7 : Option Value} {r : List (Option Value)} (k : xAT p l e R s m args below meth c Q G A nL cells slots ws (l0 :: l1 :: l2 :: l3 :: l4 :: l5 :: l6 :: none :: r) pc st) : xAT p l e R s m args below meth c Q G A nL cells slots ws (l0 :: l1 :: l2 :: l3 :: l4 :: l5 :: l6 :: l7 :: r) pc st := xlvw (fun j v h => by
  by_cases e : j = 7
  · subst e; exact absurd h (by simp)
  · have h1 : (l0 :: l1 :: l2 :: l3 :: l4 :: l5 :: l6 :: l7 :: r).set 7 none = l0 :: l1 :: l2 :: l3 :: l4 :: l5 :: l6 :: none :: r := rfl
    rw [← h1, List.getElem?_set_ne (fun h => e h.symm)] at h
    exact h) k
theorem xfg_8 {l0 l1 l2 l3 l4 l5 l6 l7 l8 : Option Value} {r : List (Option Value)} (k : xAT p l e R s m args below meth c Q G A nL cells slots ws (l0 :: l1 :: l2 :: l3 :: l4 :: l5 :: l6 :: l7 :: none :: r) pc st) : xAT p l e R s m args below meth c Q G A nL cells slots ws (l0 :: l1 :: l2 :: l3 :: l4 :: l5 :: l6 :: l7 :: l8 :: r) pc st := xlvw (fun j v h => by
  by_cases e : j = 8
  · subst e; exact absurd h (by simp)
  · have h1 : (l0 :: l1 :: l2 :: l3 :: l4 :: l5 :: l6 :: l7 :: l8 :: r).set 8 none = l0 :: l1 :: l2 :: l3 :: l4 :: l5 :: l6 :: l7 :: none :: r := rfl
    rw [← h1, List.getElem?_set_ne (fun h => e h.symm)] at h
    exact h) k
theorem xfg_9 {l0 l1 l2 l3 l4 l5 l6 l7 l8 l9 : Option Value} {r : List (Option Value)} (k : xAT p l e R s m args below meth c Q G A nL cells slots ws (l0 :: l1 :: l2 :: l3 :: l4 :: l5 :: l6 :: l7 :: l8 :: none :: r) pc st) : xAT p l e R s m args below meth c Q G A nL cells slots ws (l0 :: l1 :: l2 :: l3 :: l4 :: l5 :: l6 :: l7 :: l8 :: l9 :: r) pc st := xlvw (fun j v h => by
  by_cases e : j = 9
  · subst e; exact absurd h (by simp)
  · have h1 : (l0 :: l1 :: l2 :: l3 :: l4 :: l5 :: l6 :: l7 :: l8 :: l9 :: r).set 9 none = l0 :: l1 :: l2 :: l3 :: l4 :: l5 :: l6 :: l7 :: l8 :: none :: r := rfl
    rw [← h1, List.getElem?_set_ne (fun h => e h.symm)] at h
    exact h) k
theorem xfg_10 {l0 l1 l2 l3 l4 l5 l6 l7 l8 l9 l10 : Option Value} {r : List (Option Value)} (k : xAT p l e R s m args below meth c Q G A nL cells slots ws (l0 :: l1 :: l2 :: l3 :: l4 :: l5 :: l6 :: l7 :: l8 :: l9 :: none :: r) pc st) : xAT p l e R s m args below meth c Q G A nL cells slots ws (l0 :: l1 :: l2 :: l3 :: l4 :: l5 :: l6 :: l7 :: l8 :: l9 :: l10 :: r) pc st := xlvw (fun j v h => by
  by_cases e : j = 10
  · subst e; exact absurd h (by simp)
  · have h1 : (l0 :: l1 :: l2 :: l3 :: l4 :: l5 :: l6 :: l7 :: l8 :: l9 :: l10 :: r).set 10 none = l0 :: l1 :: l2 :: l3 :: l4 :: l5 :: l6 :: l7 :: l8 :: l9 :: none :: r := rfl
    rw [← h1, List.getElem?_set_ne (fun h => e h.symm)] at h
    exact h) k
theorem xfg_11 {l0 l1 l2 l3 l4 l5 l6 l7 l8 l9 l10 l11 : Option Value} {r : List (Option Value)} (k : xAT p l e R s m args below meth c Q G A nL cells slots ws (l0 :: l1 :: l2 :: l3 :: l4 :: l5 :: l6 :: l7 :: l8 :: l9 :: l10 :: none :: r) pc st) : xAT p l e R s m args below meth c Q G A nL cells slots ws (l0 :: l1 :: l2 :: l3 :: l4 :: l5 :: l6 :: l7 :: l8 :: l9 :: l10 :: l11 :: r) pc st := xlvw (fun j v h => by
  by_cases e : j = 11
  · subst e; exact absurd h (by simp)
  · have h1 : (l0 :: l1 :: l2 :: l3 :: l4 :: l5 :: l6 :: l7 :: l8 :: l9 :: l10 :: l11 :: r).set 11 none = l0 :: l1 :: l2 :: l3 :: l4 :: l5 :: l6 :: l7 :: l8 :: l9 :: l10 :: none :: r := rfl
    rw [← h1, List.getElem?_set_ne (fun h => e h.symm)] at h
    exact h) k
theorem xfreeA {A0 : Nat → Prop} {H0 H : Heap} {locs : List Loc} (hD : va_D A0 ws) (hS : va_S A0 H0 H locs) (hA : ∀ q, H0.size ≤ q → A0 q) : ∀ q, va_A ws H.size q → A0 q := by
  intro q h
  rcases h with ⟨k, e, h⟩ | h
  · exact hD.2 k (q, e) h
  · exact hA q (Nat.le_trans hS.1 h)
theorem xprePreA (C : CX p R s m args meth c cc nL own ret G tc A d) {H : Heap} {locs : List Loc} {av : List Value} (hP : va_P G vwCl ws H) (hD : va_D A ws) (hS : va_S A s.heap H locs) : ∀ U : State, U.heap = H → s.WarmedH U.vm → xPre G tc av ws H.size av.toArray U := fun U hU hW =>
  ⟨rfl, by rw [hU], by rw [hU]; exact hP, hD.weaken (fun _ _ _ _ => trivial), xE.warm hW C.E, by
    rw [hU]
    exact ((C.Z.kept hS.2.1).narrow (xfreeA hD hS C.al)).moved hW.alike⟩
theorem xcallViA (C : CX p R s m args meth c cc nL own ret G tc A d) {y : MethodName} {cy : ByteArray} {ny n ci idx d' a : Nat} {ry : Option FieldType} {As : List Value} {fs : List Value} {w0 w1 : va_W} {r : Int32} (hm : xMv y cy ny ry n ci) (hk : Cond.methodLink own idx y ∈ wsL_law) (M : kI l y (xw y cy ny ry) d' G tc (.ref a :: As) w0 r w1) (hdg : decode cc pc = .ok (.invokevirtual idx, 3)) (q0 : Nat) (he : ws[q0]? = some (a, .inr (ci, fs))) {st0 : List Value} (h0 : ws = w0) (hn : As.length = n) (hd : d' + 1 ≤ d) (hs : st0 = As.reverse ++ .ref a :: st) (hcat : (st.map fun v => v.category).sum ≤ 8) (hcs : cells ≤ R.cells ∧ slots ≤ R.slots) (kk : xAT p l e R s m args below meth c Q G A nL cells slots w1 lv (pc + 3) (.int r :: st)) : xAT p l e R s m args below meth c Q G A nL cells slots ws lv pc st0 := by
  subst h0
  intro H locs ls hP hD hS hl
  have hF := xfreeA hD hS C.al
  obtain ⟨T9, N9, hc9⟩ := hm.2.2.2.2.2.2
  have hrec := va_recv C.K hP hc9 he
  refine va_calli (va_runV (As := As) (rest := st) C.call (M H.size) (xcwV C hm hk hd) ⟨xPre_blind, hrec, xprePreA C hP hD hS⟩ rfl hn (hl.1) hs (lv_room hcat) hdg ⟨by rw [Nat.add_zero]; exact hcs.1, by rw [Nat.add_zero]; exact hcs.2⟩) hS (fun q _ h => hF q h) hF (fun r9 u t H1 locs1 ht hvm hw9 hB hz1 hk1 hS1 => ?_)
  · subst hw9
    obtain ⟨hP1, hD1⟩ := hB
    rw [ht] at hP1
    exact kk H1 locs1 ls hP1 (hD1.weaken (fun _ q _ h => hF q.1 h)) hS1 hl
theorem xcallVlA (C : CX p R s m args meth c cc nL own ret G tc A d) {y : MethodName} {cy : ByteArray} {ny n ci idx d' a : Nat} {ry : Option FieldType} {As : List Value} {fs : List Value} {w0 w1 : va_W} {r : Int64} (hm : xMv y cy ny ry n ci) (hk : Cond.methodLink own idx y ∈ wsL_law) (M : kL l y (xw y cy ny ry) d' G tc (.ref a :: As) w0 r w1) (hdg : decode cc pc = .ok (.invokevirtual idx, 3)) (q0 : Nat) (he : ws[q0]? = some (a, .inr (ci, fs))) {st0 : List Value} (h0 : ws = w0) (hn : As.length = n) (hd : d' + 1 ≤ d) (hs : st0 = As.reverse ++ .ref a :: st) (hcat : (st.map fun v => v.category).sum ≤ 8) (hcs : cells ≤ R.cells ∧ slots ≤ R.slots) (kk : xAT p l e R s m args below meth c Q G A nL cells slots w1 lv (pc + 3) (.long r :: st)) : xAT p l e R s m args below meth c Q G A nL cells slots ws lv pc st0 := by
  subst h0
  intro H locs ls hP hD hS hl
  have hF := xfreeA hD hS C.al
  obtain ⟨T9, N9, hc9⟩ := hm.2.2.2.2.2.2
  have hrec := va_recv C.K hP hc9 he
  refine va_calll (va_runV (As := As) (rest := st) C.call (M H.size) (xcwV C hm hk hd) ⟨xPre_blind, hrec, xprePreA C hP hD hS⟩ rfl hn (hl.1) hs (lv_room hcat) hdg ⟨by rw [Nat.add_zero]; exact hcs.1, by rw [Nat.add_zero]; exact hcs.2⟩) hS (fun q _ h => hF q h) hF (fun r9 u t H1 locs1 ht hvm hw9 hB hz1 hk1 hS1 => ?_)
  · subst hw9
    obtain ⟨hP1, hD1⟩ := hB
    rw [ht] at hP1
    exact kk H1 locs1 ls hP1 (hD1.weaken (fun _ q _ h => hF q.1 h)) hS1 hl
theorem xcallVvA (C : CX p R s m args meth c cc nL own ret G tc A d) {y : MethodName} {cy : ByteArray} {ny n ci idx d' a : Nat} {ry : Option FieldType} {As : List Value} {fs : List Value} {w0 w1 : va_W} (hm : xMv y cy ny ry n ci) (hk : Cond.methodLink own idx y ∈ wsL_law) (M : kV l y (xw y cy ny ry) d' G tc (.ref a :: As) w0 w1) (hdg : decode cc pc = .ok (.invokevirtual idx, 3)) (q0 : Nat) (he : ws[q0]? = some (a, .inr (ci, fs))) {st0 : List Value} (h0 : ws = w0) (hn : As.length = n) (hd : d' + 1 ≤ d) (hs : st0 = As.reverse ++ .ref a :: st) (hcat : (st.map fun v => v.category).sum ≤ 8) (hcs : cells ≤ R.cells ∧ slots ≤ R.slots) (kk : xAT p l e R s m args below meth c Q G A nL cells slots w1 lv (pc + 3) st) : xAT p l e R s m args below meth c Q G A nL cells slots ws lv pc st0 := by
  subst h0
  intro H locs ls hP hD hS hl
  have hF := xfreeA hD hS C.al
  obtain ⟨T9, N9, hc9⟩ := hm.2.2.2.2.2.2
  have hrec := va_recv C.K hP hc9 he
  refine va_callv (va_runV (As := As) (rest := st) C.call (M H.size) (xcwV C hm hk hd) ⟨xPre_blind, hrec, xprePreA C hP hD hS⟩ rfl hn (hl.1) hs (lv_room hcat) hdg ⟨by rw [Nat.add_zero]; exact hcs.1, by rw [Nat.add_zero]; exact hcs.2⟩) hS (fun q _ h => hF q h) hF (fun u t H1 locs1 ht hvm hw9 hB hz1 hk1 hS1 => ?_)
  · obtain ⟨hP1, hD1⟩ := hB
    rw [ht] at hP1
    exact kk H1 locs1 ls hP1 (hD1.weaken (fun _ q _ h => hF q.1 h)) hS1 hl
end XM
