/-! THE LAW: rows of its own, then each case of its switch -/
section XLW
variable {p : Program} {l : Launch} {e : Env} {R : Room} {s : State} {m : MethodId} {args : Array Value} {below : List Frame} {meth : Method} {c : Code} {Q : State → Prop} {G : va_G} {tc : Nat → ClassId} {A : Nat → Prop}
variable {cc : ByteArray} {nL : Nat} {own : String} {ret : Option FieldType} {d cells slots pc : Nat} {ws : va_W} {lv : List (Option Value)} {st : List Value}
def nb (x : Int32) : Bool := !decide (x = 0)
theorem nb_bI (v : Bool) : nb (bI v) = v := by cases v <;> decide
theorem xsld (C : CX p R s m args meth c cc nL own ret G tc A d) {b L : Nat} {xs : Nat → Int32} (hX : va_X b L xs s s.heap) (hbl : b < s.heap.size) (hbA : ¬ A b) (j : Nat) {v : Int32} (hdg : decode cc pc = .ok (.iaload, 1)) (hv : v = nI j) (hj : j < L) (hL : L < 2 ^ 31) (kk : xAT p l e R s m args below meth c Q G A nL cells slots ws lv (pc + 1) (.int (xs j) :: st)) : xAT p l e R s m args below meth c Q G A nL cells slots ws lv pc (.int v :: .ref b :: st) := by
  subst hv
  intro H locs ls hP hD hS hl
  have hc : (nI j).toNatClampNeg = j := nI_clamp (by omega)
  refine va_sld C.1 C.2.1 hX hbl hbA hS (i := nI j) (vp_in_iff.mpr ⟨?_, ?_⟩) hdg ?_
  · rw [nI_toInt (by omega)]; omega
  · rw [nI_toInt (by omega)]; omega
  · rw [hc]
    exact kk H locs ls hP hD hS hl
theorem xslen (C : CX p R s m args meth c cc nL own ret G tc A d) {b L : Nat} {xs : Nat → Int32} (hX : va_X b L xs s s.heap) (hbl : b < s.heap.size) (hbA : ¬ A b) (hdg : decode cc pc = .ok (.arraylength, 1)) (kk : xAT p l e R s m args below meth c Q G A nL cells slots ws lv (pc + 1) (.int (nI L) :: st)) : xAT p l e R s m args below meth c Q G A nL cells slots ws lv pc (.ref b :: st) := fun H locs ls hP hD hS hl => va_slen C.1 C.2.1 hX hbl hbA hS hdg (kk H locs ls hP hD hS hl)
theorem xtabIn (C : CX p R s m args meth c cc nL own ret G tc A d) {dflt lo hi : Int} {offs : Array Int} {len : Nat} {x : Int32} {off : Int} {tgt : Nat} (hdg : decode cc pc = .ok (.tableswitch dflt lo hi offs, len)) (h1 : ¬ x.toInt < lo) (h2 : ¬ hi < x.toInt) (ho : offs[(x.toInt - lo).toNat]? = some off) (ht : (pc : Int) + off = (tgt : Int)) (kk : xAT p l e R s m args below meth c Q G A nL cells slots ws lv tgt st) : xAT p l e R s m args below meth c Q G A nL cells slots ws lv pc (.int x :: st) := fun H locs ls hP hD hS hl => lv_tableIn C.1 C.2.1 hdg h1 h2 ho ht (kk H locs ls hP hD hS hl)
theorem xtabOut (C : CX p R s m args meth c cc nL own ret G tc A d) {dflt lo hi : Int} {offs : Array Int} {len : Nat} {x : Int32} {tgt : Nat} (hdg : decode cc pc = .ok (.tableswitch dflt lo hi offs, len)) (h : x.toInt < lo ∨ hi < x.toInt) (ht : (pc : Int) + dflt = (tgt : Int)) (kk : xAT p l e R s m args below meth c Q G A nL cells slots ws lv tgt st) : xAT p l e R s m args below meth c Q G A nL cells slots ws lv pc (.int x :: st) := fun H locs ls hP hD hS hl => lv_tableOut C.1 C.2.1 hdg h ht (kk H locs ls hP hD hS hl)
theorem xbool (C : CX p R s m args meth c cc nL own ret G tc A d) {x : Int32} (d0 : decode cc pc = .ok (.ifCond .eq 7, 3)) (d1 : decode cc (pc + 3) = .ok (.iconst 1, 1)) (d2 : decode cc (pc + 4) = .ok (.goto 4, 3)) (d3 : decode cc (pc + 7) = .ok (.iconst 0, 1)) (kk : xAT p l e R s m args below meth c Q G A nL cells slots ws lv (pc + 8) (.int (bI (nb x)) :: st)) : xAT p l e R s m args below meth c Q G A nL cells slots ws lv pc (.int x :: st) := by
  refine xif_eq C (tgt := pc + 7) d0 (by omega) (fun h => ?_) (fun h => ?_)
  · refine xiconst C (0) d3 (by decide) ?_
    exact xtop (w := .int (bI (nb x))) (by rw [h]; rfl) kk
  · refine xiconst C (1) d1 (by decide) ?_
    refine xgoto C (tgt := pc + 8) d2 (by omega) ?_
    exact xtop (w := .int (bI (nb x))) (by rw [nb, decide_eq_false h]; rfl) kk
theorem xboolL (C : CX p R s m args meth c cc nL own ret G tc A d) {v : Bool} (d0 : decode cc pc = .ok (.ifCond .eq 7, 3)) (d1 : decode cc (pc + 3) = .ok (.lconst 1, 1)) (d2 : decode cc (pc + 4) = .ok (.goto 4, 3)) (d3 : decode cc (pc + 7) = .ok (.lconst 0, 1)) (kk : xAT p l e R s m args below meth c Q G A nL cells slots ws lv (pc + 8) (.long (bI v).toInt64 :: st)) : xAT p l e R s m args below meth c Q G A nL cells slots ws lv pc (.int (bI v) :: st) := by
  refine xif_eq C (tgt := pc + 7) d0 (by omega) (fun h => ?_) (fun h => ?_)
  · refine xlconst C (0) d3 (by decide) ?_
    exact xtop (w := .long (bI v).toInt64) (by rw [bI0 h]; rfl) kk
  · refine xlconst C (1) d1 (by decide) ?_
    refine xgoto C (tgt := pc + 8) d2 (by omega) ?_
    exact xtop (w := .long (bI v).toInt64) (by rw [bI1 h]; rfl) kk
theorem lg_cmp_self (x : Int64) : lg_cmp x x = 0 := by
  have : ¬ x > x := Int64.lt_irrefl
  rw [lg_cmp, if_neg this, if_pos rfl]
theorem cd1_0 {t : Option String} (h : cd1 t = 0) : t = none := by
  cases t with
  | none => rfl
  | some E => exact absurd h (by show ¬ (1 : Int32) = 0; decide)
theorem cd2_0 {E1 : String} {t : Option String} (h : cd2 E1 t = 0) : t = none := by
  cases t with
  | none => rfl
  | some E =>
    have h : (if E = E1 then (1 : Int32) else 2) = 0 := h
    split at h
    · exact absurd h (by decide)
    · exact absurd h (by decide)
def lwW (tc : Nat → ClassId) (qo qd a0 : Nat) (u : Nat → Nat → Nat) (aX : Nat → Nat) (o : Nat → Int64) (od : Nat → UInt64) (S : CS) (T : RS) : va_W := wOl tc qo o ++ (wF tc a0 u S ++ (wOd tc qd od ++ wXs tc aX T))
theorem lwM {tc : Nat → ClassId} {qo qd a0 : Nat} {u : Nat → Nat → Nat} {aX : Nat → Nat} {o : Nat → Int64} {od : Nat → UInt64} {S : CS} {T : RS} : lwW tc qo qd a0 u aX o od S T = (wOl tc qo o ++ (wF tc a0 u S ++ wOd tc qd od)) ++ (wXs tc aX T ++ []) := by simp only [lwW, List.append_assoc, List.append_nil]
theorem lwH {tc : Nat → ClassId} {qo qd a0 : Nat} {u : Nat → Nat → Nat} {aX : Nat → Nat} {o : Nat → Int64} {od : Nat → UInt64} {S : CS} {T : RS} : lwW tc qo qd a0 u aX o od S T = [] ++ ((wOl tc qo o ++ (wF tc a0 u S ++ [])) ++ (wOd tc qd od ++ wXs tc aX T)) := by simp only [lwW, List.append_assoc, List.append_nil, List.nil_append]
theorem lwD {tc : Nat → ClassId} {qo qd a0 : Nat} {u : Nat → Nat → Nat} {aX : Nat → Nat} {o : Nat → Int64} {od : Nat → UInt64} {S : CS} {T : RS} : lwW tc qo qd a0 u aX o od S T = wOl tc qo o ++ (([] ++ (wF tc a0 u S ++ wOd tc qd od)) ++ wXs tc aX T) := by simp only [lwW, List.append_assoc, List.nil_append]
theorem lwh (C : CX p R s m args meth c cc nL own ret G tc A d) {qo qd a0 : Nat} {u : Nat → Nat → Nat} {aX : Nat → Nat} {o : Nat → Int64} {od : Nat → UInt64} {S : CS} {T : RS} {o' : Nat → Int64} {S' : CS} {y : MethodName} {cy : ByteArray} {ny k idx d' n' : Nat} {hh : List (Nat × Nat × Nat × Nat)} {As : List Value} {r : Int32} (hm : xMh y cy ny hh k) (hk : Cond.methodLink own idx y ∈ wsL_law) (M : tIx l y (xwh y cy ny hh) d' G tc As (wOl tc qo o ++ (wF tc a0 u S ++ [])) n' none (wOl tc qo o ++ (wF tc a0 u S ++ [])) r (wOl tc qo o' ++ (wF tc a0 u S' ++ []))) (hdg : decode cc pc = .ok (.invokestatic idx, 3)) {st0 : List Value} (hn : As.length = k) (hd : d' + 1 ≤ d) (hs : st0 = As.reverse ++ st) (hcat : (st.map fun v => v.category).sum ≤ 8) (hcs : cells + n' ≤ R.cells ∧ slots + 6 * n' ≤ R.slots) (kk : xAT p l e R s m args below meth c Q G A nL (cells + n') (slots + 6 * n') (lwW tc qo qd a0 u aX (o') (od) (S') (T)) lv (pc + 3) (.int r :: st)) : xAT p l e R s m args below meth c Q G A nL cells slots (lwW tc qo qd a0 u aX (o) (od) (S) (T)) lv pc st0 := xws lwH (xcallH C hm hk M hdg hn hd hs hcat hcs (xws lwH.symm kk))
theorem lwd (C : CX p R s m args meth c cc nL own ret G tc A d) {qo qd a0 : Nat} {u : Nat → Nat → Nat} {aX : Nat → Nat} {o : Nat → Int64} {od : Nat → UInt64} {S : CS} {T : RS} {od' : Nat → UInt64} {S' : CS} {y : MethodName} {cy : ByteArray} {ny k idx d' n' : Nat} {hh : List (Nat × Nat × Nat × Nat)} {As : List Value} {r : Int32} (hm : xMh y cy ny hh k) (hk : Cond.methodLink own idx y ∈ wsL_law) (M : tIx l y (xwh y cy ny hh) d' G tc As ([] ++ (wF tc a0 u S ++ wOd tc qd od)) n' none ([] ++ (wF tc a0 u S ++ wOd tc qd od)) r ([] ++ (wF tc a0 u S' ++ wOd tc qd od'))) (hdg : decode cc pc = .ok (.invokestatic idx, 3)) {st0 : List Value} (hn : As.length = k) (hd : d' + 1 ≤ d) (hs : st0 = As.reverse ++ st) (hcat : (st.map fun v => v.category).sum ≤ 8) (hcs : cells + n' ≤ R.cells ∧ slots + 6 * n' ≤ R.slots) (kk : xAT p l e R s m args below meth c Q G A nL (cells + n') (slots + 6 * n') (lwW tc qo qd a0 u aX (o) (od') (S') (T)) lv (pc + 3) (.int r :: st)) : xAT p l e R s m args below meth c Q G A nL cells slots (lwW tc qo qd a0 u aX (o) (od) (S) (T)) lv pc st0 := xws lwD (xcallH C hm hk M hdg hn hd hs hcat hcs (xws lwD.symm kk))
theorem lwmi (C : CX p R s m args meth c cc nL own ret G tc A d) {qo qd a0 : Nat} {u : Nat → Nat → Nat} {aX : Nat → Nat} {o : Nat → Int64} {od : Nat → UInt64} {S : CS} {T : RS} {T' : RS} {y : MethodName} {cy : ByteArray} {ny k idx d' : Nat} {ry : Option FieldType} {As : List Value} {r : Int32} (hm : xMv y cy ny ry k 6) (hk : Cond.methodLink own idx y ∈ wsL_law) (M : kI l y (xw y cy ny ry) d' G tc (.ref (aX 0) :: As) (wXs tc aX T) r (wXs tc aX T')) (hdg : decode cc pc = .ok (.invokevirtual idx, 3)) {st0 : List Value} (hn : As.length = k) (hd : d' + 1 ≤ d) (hs : st0 = As.reverse ++ .ref (aX 0) :: st) (hcat : (st.map fun v => v.category).sum ≤ 8) (hcs : cells ≤ R.cells ∧ slots ≤ R.slots) (kk : xAT p l e R s m args below meth c Q G A nL cells slots (lwW tc qo qd a0 u aX (o) (od) (S) (T')) lv (pc + 3) (.int r :: st)) : xAT p l e R s m args below meth c Q G A nL cells slots (lwW tc qo qd a0 u aX (o) (od) (S) (T)) lv pc st0 := xws lwM (xcallViB C hm hk M hdg 0 rfl hn hd hs hcat hcs (xws lwM.symm kk))
theorem lwci (C : CX p R s m args meth c cc nL own ret G tc A d) {qo qd a0 : Nat} {u : Nat → Nat → Nat} {aX : Nat → Nat} {o : Nat → Int64} {od : Nat → UInt64} {S : CS} {T : RS} {S' : CS} {y : MethodName} {cy : ByteArray} {ny k idx d' : Nat} {ry : Option FieldType} {As : List Value} {r : Int32} (hm : xMv y cy ny ry k 5) (hk : Cond.methodLink own idx y ∈ wsL_law) (M : kI l y (xw y cy ny ry) d' G tc (.ref a0 :: As) (wF tc a0 u S) r (wF tc a0 u S')) (hdg : decode cc pc = .ok (.invokevirtual idx, 3)) {st0 : List Value} (hn : As.length = k) (hd : d' + 1 ≤ d) (hs : st0 = As.reverse ++ .ref a0 :: st) (hcat : (st.map fun v => v.category).sum ≤ 8) (hcs : cells ≤ R.cells ∧ slots ≤ R.slots) (kk : xAT p l e R s m args below meth c Q G A nL cells slots (lwW tc qo qd a0 u aX (o) (od) (S') (T)) lv (pc + 3) (.int r :: st)) : xAT p l e R s m args below meth c Q G A nL cells slots (lwW tc qo qd a0 u aX (o) (od) (S) (T)) lv pc st0 := xcallViB C hm hk M hdg 0 rfl hn hd hs hcat hcs kk
theorem lwml (C : CX p R s m args meth c cc nL own ret G tc A d) {qo qd a0 : Nat} {u : Nat → Nat → Nat} {aX : Nat → Nat} {o : Nat → Int64} {od : Nat → UInt64} {S : CS} {T : RS} {T' : RS} {y : MethodName} {cy : ByteArray} {ny k idx d' : Nat} {ry : Option FieldType} {As : List Value} {r : Int64} (hm : xMv y cy ny ry k 6) (hk : Cond.methodLink own idx y ∈ wsL_law) (M : kL l y (xw y cy ny ry) d' G tc (.ref (aX 0) :: As) (wXs tc aX T) r (wXs tc aX T')) (hdg : decode cc pc = .ok (.invokevirtual idx, 3)) {st0 : List Value} (hn : As.length = k) (hd : d' + 1 ≤ d) (hs : st0 = As.reverse ++ .ref (aX 0) :: st) (hcat : (st.map fun v => v.category).sum ≤ 8) (hcs : cells ≤ R.cells ∧ slots ≤ R.slots) (kk : xAT p l e R s m args below meth c Q G A nL cells slots (lwW tc qo qd a0 u aX (o) (od) (S) (T')) lv (pc + 3) (.long r :: st)) : xAT p l e R s m args below meth c Q G A nL cells slots (lwW tc qo qd a0 u aX (o) (od) (S) (T)) lv pc st0 := xws lwM (xcallVlB C hm hk M hdg 0 rfl hn hd hs hcat hcs (xws lwM.symm kk))
theorem lwcl (C : CX p R s m args meth c cc nL own ret G tc A d) {qo qd a0 : Nat} {u : Nat → Nat → Nat} {aX : Nat → Nat} {o : Nat → Int64} {od : Nat → UInt64} {S : CS} {T : RS} {S' : CS} {y : MethodName} {cy : ByteArray} {ny k idx d' : Nat} {ry : Option FieldType} {As : List Value} {r : Int64} (hm : xMv y cy ny ry k 5) (hk : Cond.methodLink own idx y ∈ wsL_law) (M : kL l y (xw y cy ny ry) d' G tc (.ref a0 :: As) (wF tc a0 u S) r (wF tc a0 u S')) (hdg : decode cc pc = .ok (.invokevirtual idx, 3)) {st0 : List Value} (hn : As.length = k) (hd : d' + 1 ≤ d) (hs : st0 = As.reverse ++ .ref a0 :: st) (hcat : (st.map fun v => v.category).sum ≤ 8) (hcs : cells ≤ R.cells ∧ slots ≤ R.slots) (kk : xAT p l e R s m args below meth c Q G A nL cells slots (lwW tc qo qd a0 u aX (o) (od) (S') (T)) lv (pc + 3) (.long r :: st)) : xAT p l e R s m args below meth c Q G A nL cells slots (lwW tc qo qd a0 u aX (o) (od) (S) (T)) lv pc st0 := xcallVlB C hm hk M hdg 0 rfl hn hd hs hcat hcs kk
theorem lwmd (C : CX p R s m args meth c cc nL own ret G tc A d) {qo qd a0 : Nat} {u : Nat → Nat → Nat} {aX : Nat → Nat} {o : Nat → Int64} {od : Nat → UInt64} {S : CS} {T : RS} {T' : RS} {y : MethodName} {cy : ByteArray} {ny k idx d' : Nat} {ry : Option FieldType} {As : List Value} {r : UInt64} (hm : xMv y cy ny ry k 6) (hk : Cond.methodLink own idx y ∈ wsL_law) (M : kD l y (xw y cy ny ry) d' G tc (.ref (aX 0) :: As) (wXs tc aX T) r (wXs tc aX T')) (hdg : decode cc pc = .ok (.invokevirtual idx, 3)) {st0 : List Value} (hn : As.length = k) (hd : d' + 1 ≤ d) (hs : st0 = As.reverse ++ .ref (aX 0) :: st) (hcat : (st.map fun v => v.category).sum ≤ 8) (hcs : cells ≤ R.cells ∧ slots ≤ R.slots) (kk : xAT p l e R s m args below meth c Q G A nL cells slots (lwW tc qo qd a0 u aX (o) (od) (S) (T')) lv (pc + 3) (.double r :: st)) : xAT p l e R s m args below meth c Q G A nL cells slots (lwW tc qo qd a0 u aX (o) (od) (S) (T)) lv pc st0 := xws lwM (xcallVdB C hm hk M hdg 0 rfl hn hd hs hcat hcs (xws lwM.symm kk))
end XLW
section XLC
variable {p : Program} {l : Launch} {e : Env} {R : Room} {s : State} {m : MethodId} {args : Array Value} {below : List Frame} {meth : Method} {c : Code} {Q : State → Prop} {G : va_G} {tc : Nat → ClassId} {A : Nat → Prop}
variable {cells slots : Nat}
set_option maxHeartbeats 4000000 in
set_option maxRecDepth 100000 in
theorem q_feed (hl9 : l.stackTraces = false) (C : CX p R s m args meth c cL_law 9 RL (some .boolean) G tc A 60) {b L : Nat} {xs : Nat → Int32} (hX : va_X b L xs s s.heap) (hbl : b < s.heap.size) (hbA : ¬ A b) (hL : L < 2 ^ 31) (qo qd a0 : Nat) (u : Nat → Nat → Nat) (aX : Nat → Nat) (o : Nat → Int64) (od : Nat → UInt64) (S : CS) (T : RS) (i : Nat) (hi : i + 5 ≤ L) (hR : cells + 3 ≤ R.cells ∧ slots + 18 ≤ R.slots) (hn : sN S ≤ 48) (tn : zN T ≤ 48) (thr : Option String) (hthr : ((thF ((xs (i + 1)).toInt64 <<< ((nI 32).toInt64 &&& 63) ||| (xs (i + 2)).toInt64 &&& 4294967295) (sN S))) = thr) (hth : zT (pFeed ((xs (i + 1)).toInt64 <<< ((nI 32).toInt64 &&& 63) ||| (xs (i + 2)).toInt64 &&& 4294967295) T) = cd2 xIA thr) (hval : thr = none → (nI (fdA ((xs (i + 1)).toInt64 <<< ((nI 32).toInt64 &&& 63) ||| (xs (i + 2)).toInt64 &&& 4294967295) 8 (sB S) (sN S)).2).toInt64 = (if fTm ((xs (i + 1)).toInt64 <<< ((nI 32).toInt64 &&& 63) ||| (xs (i + 2)).toInt64 &&& 4294967295) (zN T) = 0 then nI (fdA ((xs (i + 1)).toInt64 <<< ((nI 32).toInt64 &&& 63) ||| (xs (i + 2)).toInt64 &&& 4294967295) 8 (zB T) (zN T)).2 else 0).toInt64) (kk : xAT p l e R s m args below meth c Q G A 9 (cells + 1) (slots + 6 * 1) (lwW tc qo qd a0 u aX (if thr = none then vp_updL o 0 ((nI (fdA ((xs (i + 1)).toInt64 <<< ((nI 32).toInt64 &&& 63) ||| (xs (i + 2)).toInt64 &&& 4294967295) 8 (sB S) (sN S)).2).toInt64) else o) (od) (if thr = none then oFeed ((xs (i + 1)).toInt64 <<< ((nI 32).toInt64 &&& 63) ||| (xs (i + 2)).toInt64 &&& 4294967295) S else S) (pFeed ((xs (i + 1)).toInt64 <<< ((nI 32).toInt64 &&& 63) ||| (xs (i + 2)).toInt64 &&& 4294967295) T)) [some (.ref b), some (.ref a0), some (.ref (aX 0)), some (.ref qo), some (.ref qd), some (.int (nI i)), none, none, none] 1624 []) : xAT p l e R s m args below meth c Q G A 9 (cells) (slots) (lwW tc qo qd a0 u aX (o) (od) (S) (T)) [some (.ref b), some (.ref a0), some (.ref (aX 0)), some (.ref qo), some (.ref qd), some (.int (nI i)), none, none, none] 172 [] := by
  have hR1 := hR.1
  have hR2 := hR.2
  refine xaload_1 C dL_law_172 ?_
  refine xaload_0 C dL_law_173 ?_
  refine xiload_5 C dL_law_174 ?_
  refine xiconst C (nI 1) dL_law_176 (by decide) ?_
  refine xiadd C dL_law_177 ?_
  rw [nI_add]
  refine xsld C hX hbl hbA (i + 1) dL_law_178 rfl (by omega) hL ?_
  refine xi2l C dL_law_179 ?_
  refine xbipush C (nI 32) dL_law_180 (by decide) ?_
  refine xlshl C dL_law_182 ?_
  refine xaload_0 C dL_law_183 ?_
  refine xiload_5 C dL_law_184 ?_
  refine xiconst C (nI 2) dL_law_186 (by decide) ?_
  refine xiadd C dL_law_187 ?_
  rw [nI_add]
  refine xsld C hX hbl hbA (i + 2) dL_law_188 rfl (by omega) hL ?_
  refine xi2l C dL_law_189 ?_
  refine xldc2 C dL_law_190 cl_L_89 ?_
  refine xland C dL_law_193 ?_
  refine xlor C dL_law_194 ?_
  refine xaload_3 C dL_law_195 ?_
  refine lwh C mh_feed k_L_91 (h_feed l hl9 G tc a0 u S hn ((xs (i + 1)).toInt64 <<< ((nI 32).toInt64 &&& 63) ||| (xs (i + 2)).toInt64 &&& 4294967295) qo o thr hthr) dL_law_196 rfl (by decide) rfl (Nat.le_of_ble_eq_true rfl) ⟨by omega, by omega⟩ ?_
  refine xistore_6 C dL_law_199 rfl (by decide) ?_
  refine xaload_2 C dL_law_201 ?_
  refine xaload_0 C dL_law_202 ?_
  refine xiload_5 C dL_law_203 ?_
  refine xiconst C (nI 1) dL_law_205 (by decide) ?_
  refine xiadd C dL_law_206 ?_
  rw [nI_add]
  refine xsld C hX hbl hbA (i + 1) dL_law_207 rfl (by omega) hL ?_
  refine xi2l C dL_law_208 ?_
  refine xbipush C (nI 32) dL_law_209 (by decide) ?_
  refine xlshl C dL_law_211 ?_
  refine xaload_0 C dL_law_212 ?_
  refine xiload_5 C dL_law_213 ?_
  refine xiconst C (nI 2) dL_law_215 (by decide) ?_
  refine xiadd C dL_law_216 ?_
  rw [nI_add]
  refine xsld C hX hbl hbA (i + 2) dL_law_217 rfl (by omega) hL ?_
  refine xi2l C dL_law_218 ?_
  refine xldc2 C dL_law_219 cl_L_89 ?_
  refine xland C dL_law_222 ?_
  refine xlor C dL_law_223 ?_
  refine lwmi C m_X6_feed k_L_96 (g_feed l G tc aX T tn ((xs (i + 1)).toInt64 <<< ((nI 32).toInt64 &&& 63) ||| (xs (i + 2)).toInt64 &&& 4294967295)) dL_law_224 rfl (by decide) rfl (Nat.le_of_ble_eq_true rfl) ⟨by omega, by omega⟩ ?_
  refine xistore_7 C dL_law_227 rfl (by decide) ?_
  refine xaload_2 C dL_law_229 ?_
  refine lwmi C m_X6_thrown k_L_97 (g_thrown l G tc aX (pFeed ((xs (i + 1)).toInt64 <<< ((nI 32).toInt64 &&& 63) ||| (xs (i + 2)).toInt64 &&& 4294967295) T)) dL_law_230 rfl (by decide) rfl (Nat.le_of_ble_eq_true rfl) ⟨by omega, by omega⟩ ?_
  refine xiload_6 C dL_law_233 ?_
  refine xicmp_eq C (tgt := 240) dL_law_235 (by decide) (fun hq => ?_) (fun hq => absurd hth hq)
  refine xiload_6 C dL_law_240 ?_
  have kend : xAT p l e R s m args below meth c Q G A 9 (cells + 1) (slots + 6 * 1) (lwW tc qo qd a0 u aX (if thr = none then vp_updL o 0 ((nI (fdA ((xs (i + 1)).toInt64 <<< ((nI 32).toInt64 &&& 63) ||| (xs (i + 2)).toInt64 &&& 4294967295) 8 (sB S) (sN S)).2).toInt64) else o) (od) (if thr = none then oFeed ((xs (i + 1)).toInt64 <<< ((nI 32).toInt64 &&& 63) ||| (xs (i + 2)).toInt64 &&& 4294967295) S else S) (pFeed ((xs (i + 1)).toInt64 <<< ((nI 32).toInt64 &&& 63) ||| (xs (i + 2)).toInt64 &&& 4294967295) T)) [some (.ref b), some (.ref a0), some (.ref (aX 0)), some (.ref qo), some (.ref qd), some (.int (nI i)), some (.int (cd2 xIA thr)), some (.int (if fTm ((xs (i + 1)).toInt64 <<< ((nI 32).toInt64 &&& 63) ||| (xs (i + 2)).toInt64 &&& 4294967295) (zN T) = 0 then nI (fdA ((xs (i + 1)).toInt64 <<< ((nI 32).toInt64 &&& 63) ||| (xs (i + 2)).toInt64 &&& 4294967295) 8 (zB T) (zN T)).2 else 0)), none] 257 [] := by
    refine xgoto C (tgt := 1624) dL_law_257 (by decide) ?_
    exact xfg_6 (xfg_7 kk)
  refine xif_ne C (tgt := 257) dL_law_242 (by decide) (fun hq => kend) (fun hq => ?_)
  have hN := cd2_0 hq
  have hv := hval hN
  have hO : (if thr = none then vp_updL o 0 ((nI (fdA ((xs (i + 1)).toInt64 <<< ((nI 32).toInt64 &&& 63) ||| (xs (i + 2)).toInt64 &&& 4294967295) 8 (sB S) (sN S)).2).toInt64) else o) 0 = (if fTm ((xs (i + 1)).toInt64 <<< ((nI 32).toInt64 &&& 63) ||| (xs (i + 2)).toInt64 &&& 4294967295) (zN T) = 0 then nI (fdA ((xs (i + 1)).toInt64 <<< ((nI 32).toInt64 &&& 63) ||| (xs (i + 2)).toInt64 &&& 4294967295) 8 (zB T) (zN T)).2 else 0).toInt64 := by rw [if_pos hN, ← hv]; rfl
  refine xaload_3 C dL_law_245 ?_
  refine xiconst C (nI 0) dL_law_246 (by decide) ?_
  refine xlaldN C 0 0 dL_law_247 rfl (by decide) rfl (by decide) ?_
  refine xiload_7 C dL_law_248 ?_
  refine xi2l C dL_law_250 ?_
  refine xlcmp C dL_law_251 ?_
  refine xif_eq C (tgt := 257) dL_law_252 (by decide) (fun hz => kend) (fun hz => absurd (by rw [hO]; exact lg_cmp_self _) hz)
set_option maxHeartbeats 4000000 in
set_option maxRecDepth 100000 in
theorem q_cut (hl9 : l.stackTraces = false) (C : CX p R s m args meth c cL_law 9 RL (some .boolean) G tc A 60) {b L : Nat} {xs : Nat → Int32} (hX : va_X b L xs s s.heap) (hbl : b < s.heap.size) (hbA : ¬ A b) (hL : L < 2 ^ 31) (qo qd a0 : Nat) (u : Nat → Nat → Nat) (aX : Nat → Nat) (o : Nat → Int64) (od : Nat → UInt64) (S : CS) (T : RS) (i : Nat) (hi : i + 5 ≤ L) (hR : cells + 3 ≤ R.cells ∧ slots + 18 ≤ R.slots) (hn : sN S ≤ 48) (tn : zN T ≤ 48) (thr : Option String) (hthr : ((if (decide ((xs (i + 1)) < 0) || !decide ((xs (i + 1)) ≤ nI (sN S))) = true then some xIA else none)) = thr) (hth : zT (pCut (xs (i + 1)) T) = cd1 thr) (hval : thr = none → (nI (sN S - (xs (i + 1)).toNatClampNeg)).toInt64 = (if isInB (xs (i + 1)) 0 (nI (zN T)) = true then nI ((zN T) - (xs (i + 1)).toNatClampNeg) else 0).toInt64) (kk : xAT p l e R s m args below meth c Q G A 9 (cells + 1) (slots + 6 * 1) (lwW tc qo qd a0 u aX (if thr = none then vp_updL o 0 ((nI (sN S - (xs (i + 1)).toNatClampNeg)).toInt64) else o) (od) (if thr = none then oCut (xs (i + 1)) S else S) (pCut (xs (i + 1)) T)) [some (.ref b), some (.ref a0), some (.ref (aX 0)), some (.ref qo), some (.ref qd), some (.int (nI i)), none, none, none] 1624 []) : xAT p l e R s m args below meth c Q G A 9 (cells) (slots) (lwW tc qo qd a0 u aX (o) (od) (S) (T)) [some (.ref b), some (.ref a0), some (.ref (aX 0)), some (.ref qo), some (.ref qd), some (.int (nI i)), none, none, none] 260 [] := by
  have hR1 := hR.1
  have hR2 := hR.2
  refine xaload_1 C dL_law_260 ?_
  refine xaload_0 C dL_law_261 ?_
  refine xiload_5 C dL_law_262 ?_
  refine xiconst C (nI 1) dL_law_264 (by decide) ?_
  refine xiadd C dL_law_265 ?_
  rw [nI_add]
  refine xsld C hX hbl hbA (i + 1) dL_law_266 rfl (by omega) hL ?_
  refine xaload_3 C dL_law_267 ?_
  refine lwh C mh_cut k_L_100 (h_cut l hl9 G tc a0 u S hn (xs (i + 1)) qo o thr hthr) dL_law_268 rfl (by decide) rfl (Nat.le_of_ble_eq_true rfl) ⟨by omega, by omega⟩ ?_
  refine xistore_6 C dL_law_271 rfl (by decide) ?_
  refine xaload_2 C dL_law_273 ?_
  refine xaload_0 C dL_law_274 ?_
  refine xiload_5 C dL_law_275 ?_
  refine xiconst C (nI 1) dL_law_277 (by decide) ?_
  refine xiadd C dL_law_278 ?_
  rw [nI_add]
  refine xsld C hX hbl hbA (i + 1) dL_law_279 rfl (by omega) hL ?_
  refine lwmi C m_X6_cut k_L_103 (g_cut l G tc aX T tn (xs (i + 1))) dL_law_280 rfl (by decide) rfl (Nat.le_of_ble_eq_true rfl) ⟨by omega, by omega⟩ ?_
  refine xistore_7 C dL_law_283 rfl (by decide) ?_
  refine xaload_2 C dL_law_285 ?_
  refine lwmi C m_X6_thrown k_L_97 (g_thrown l G tc aX (pCut (xs (i + 1)) T)) dL_law_286 rfl (by decide) rfl (Nat.le_of_ble_eq_true rfl) ⟨by omega, by omega⟩ ?_
  refine xiload_6 C dL_law_289 ?_
  refine xicmp_eq C (tgt := 296) dL_law_291 (by decide) (fun hq => ?_) (fun hq => absurd hth hq)
  refine xiload_6 C dL_law_296 ?_
  have kend : xAT p l e R s m args below meth c Q G A 9 (cells + 1) (slots + 6 * 1) (lwW tc qo qd a0 u aX (if thr = none then vp_updL o 0 ((nI (sN S - (xs (i + 1)).toNatClampNeg)).toInt64) else o) (od) (if thr = none then oCut (xs (i + 1)) S else S) (pCut (xs (i + 1)) T)) [some (.ref b), some (.ref a0), some (.ref (aX 0)), some (.ref qo), some (.ref qd), some (.int (nI i)), some (.int (cd1 thr)), some (.int (if isInB (xs (i + 1)) 0 (nI (zN T)) = true then nI ((zN T) - (xs (i + 1)).toNatClampNeg) else 0)), none] 313 [] := by
    refine xgoto C (tgt := 1624) dL_law_313 (by decide) ?_
    exact xfg_6 (xfg_7 kk)
  refine xif_ne C (tgt := 313) dL_law_298 (by decide) (fun hq => kend) (fun hq => ?_)
  have hN := cd1_0 hq
  have hv := hval hN
  have hO : (if thr = none then vp_updL o 0 ((nI (sN S - (xs (i + 1)).toNatClampNeg)).toInt64) else o) 0 = (if isInB (xs (i + 1)) 0 (nI (zN T)) = true then nI ((zN T) - (xs (i + 1)).toNatClampNeg) else 0).toInt64 := by rw [if_pos hN, ← hv]; rfl
  refine xaload_3 C dL_law_301 ?_
  refine xiconst C (nI 0) dL_law_302 (by decide) ?_
  refine xlaldN C 0 0 dL_law_303 rfl (by decide) rfl (by decide) ?_
  refine xiload_7 C dL_law_304 ?_
  refine xi2l C dL_law_306 ?_
  refine xlcmp C dL_law_307 ?_
  refine xif_eq C (tgt := 313) dL_law_308 (by decide) (fun hz => kend) (fun hz => absurd (by rw [hO]; exact lg_cmp_self _) hz)
set_option maxHeartbeats 4000000 in
set_option maxRecDepth 100000 in
theorem q_set (hl9 : l.stackTraces = false) (C : CX p R s m args meth c cL_law 9 RL (some .boolean) G tc A 60) {b L : Nat} {xs : Nat → Int32} (hX : va_X b L xs s s.heap) (hbl : b < s.heap.size) (hbA : ¬ A b) (hL : L < 2 ^ 31) (qo qd a0 : Nat) (u : Nat → Nat → Nat) (aX : Nat → Nat) (o : Nat → Int64) (od : Nat → UInt64) (S : CS) (T : RS) (i : Nat) (hi : i + 5 ≤ L) (hR : cells + 3 ≤ R.cells ∧ slots + 18 ≤ R.slots) (hn : sN S ≤ 48) (tn : zN T ≤ 48) (thr : Option String) (hthr : (((thP (sN S) (xs (i + 1))).or (if txB (xs (i + 2)) = true then none else some xIA))) = thr) (hth : zT (pSet (xs (i + 1)) (xs (i + 2)) T) = cd2 xIO thr) (hval : thr = none → (sB S (xs (i + 1)).toNatClampNeg).toInt64 = (if isInB (xs (i + 1)) 0 (nI (zN T) - 1) = true then (if txB (xs (i + 2)) = true then (zB T) (xs (i + 1)).toNatClampNeg else 0) else 0).toInt64) (kk : xAT p l e R s m args below meth c Q G A 9 (cells + 2) (slots + 6 * 2) (lwW tc qo qd a0 u aX (if thr = none then vp_updL o 0 ((sB S (xs (i + 1)).toNatClampNeg).toInt64) else o) (od) (if thr = none then oSet (xs (i + 1)) (xs (i + 2)) S else S) (pSet (xs (i + 1)) (xs (i + 2)) T)) [some (.ref b), some (.ref a0), some (.ref (aX 0)), some (.ref qo), some (.ref qd), some (.int (nI i)), none, none, none] 1624 []) : xAT p l e R s m args below meth c Q G A 9 (cells) (slots) (lwW tc qo qd a0 u aX (o) (od) (S) (T)) [some (.ref b), some (.ref a0), some (.ref (aX 0)), some (.ref qo), some (.ref qd), some (.int (nI i)), none, none, none] 316 [] := by
  have hR1 := hR.1
  have hR2 := hR.2
  refine xaload_1 C dL_law_316 ?_
  refine xaload_0 C dL_law_317 ?_
  refine xiload_5 C dL_law_318 ?_
  refine xiconst C (nI 1) dL_law_320 (by decide) ?_
  refine xiadd C dL_law_321 ?_
  rw [nI_add]
  refine xsld C hX hbl hbA (i + 1) dL_law_322 rfl (by omega) hL ?_
  refine xaload_0 C dL_law_323 ?_
  refine xiload_5 C dL_law_324 ?_
  refine xiconst C (nI 2) dL_law_326 (by decide) ?_
  refine xiadd C dL_law_327 ?_
  rw [nI_add]
  refine xsld C hX hbl hbA (i + 2) dL_law_328 rfl (by omega) hL ?_
  refine xaload_3 C dL_law_329 ?_
  refine lwh C mh_set k_L_104 (h_set l hl9 G tc a0 u S hn (xs (i + 1)) (xs (i + 2)) qo o thr hthr) dL_law_330 rfl (by decide) rfl (Nat.le_of_ble_eq_true rfl) ⟨by omega, by omega⟩ ?_
  refine xistore_6 C dL_law_333 rfl (by decide) ?_
  refine xaload_2 C dL_law_335 ?_
  refine xaload_0 C dL_law_336 ?_
  refine xiload_5 C dL_law_337 ?_
  refine xiconst C (nI 1) dL_law_339 (by decide) ?_
  refine xiadd C dL_law_340 ?_
  rw [nI_add]
  refine xsld C hX hbl hbA (i + 1) dL_law_341 rfl (by omega) hL ?_
  refine xaload_0 C dL_law_342 ?_
  refine xiload_5 C dL_law_343 ?_
  refine xiconst C (nI 2) dL_law_345 (by decide) ?_
  refine xiadd C dL_law_346 ?_
  rw [nI_add]
  refine xsld C hX hbl hbA (i + 2) dL_law_347 rfl (by omega) hL ?_
  refine lwmi C m_X6_set k_L_107 (g_set l G tc aX T tn (xs (i + 1)) (xs (i + 2))) dL_law_348 rfl (by decide) rfl (Nat.le_of_ble_eq_true rfl) ⟨by omega, by omega⟩ ?_
  refine xistore_7 C dL_law_351 rfl (by decide) ?_
  refine xaload_2 C dL_law_353 ?_
  refine lwmi C m_X6_thrown k_L_97 (g_thrown l G tc aX (pSet (xs (i + 1)) (xs (i + 2)) T)) dL_law_354 rfl (by decide) rfl (Nat.le_of_ble_eq_true rfl) ⟨by omega, by omega⟩ ?_
  refine xiload_6 C dL_law_357 ?_
  refine xicmp_eq C (tgt := 364) dL_law_359 (by decide) (fun hq => ?_) (fun hq => absurd hth hq)
  refine xiload_6 C dL_law_364 ?_
  have kend : xAT p l e R s m args below meth c Q G A 9 (cells + 2) (slots + 6 * 2) (lwW tc qo qd a0 u aX (if thr = none then vp_updL o 0 ((sB S (xs (i + 1)).toNatClampNeg).toInt64) else o) (od) (if thr = none then oSet (xs (i + 1)) (xs (i + 2)) S else S) (pSet (xs (i + 1)) (xs (i + 2)) T)) [some (.ref b), some (.ref a0), some (.ref (aX 0)), some (.ref qo), some (.ref qd), some (.int (nI i)), some (.int (cd2 xIO thr)), some (.int (if isInB (xs (i + 1)) 0 (nI (zN T) - 1) = true then (if txB (xs (i + 2)) = true then (zB T) (xs (i + 1)).toNatClampNeg else 0) else 0)), none] 381 [] := by
    refine xgoto C (tgt := 1624) dL_law_381 (by decide) ?_
    exact xfg_6 (xfg_7 kk)
  refine xif_ne C (tgt := 381) dL_law_366 (by decide) (fun hq => kend) (fun hq => ?_)
  have hN := cd2_0 hq
  have hv := hval hN
  have hO : (if thr = none then vp_updL o 0 ((sB S (xs (i + 1)).toNatClampNeg).toInt64) else o) 0 = (if isInB (xs (i + 1)) 0 (nI (zN T) - 1) = true then (if txB (xs (i + 2)) = true then (zB T) (xs (i + 1)).toNatClampNeg else 0) else 0).toInt64 := by rw [if_pos hN, ← hv]; rfl
  refine xaload_3 C dL_law_369 ?_
  refine xiconst C (nI 0) dL_law_370 (by decide) ?_
  refine xlaldN C 0 0 dL_law_371 rfl (by decide) rfl (by decide) ?_
  refine xiload_7 C dL_law_372 ?_
  refine xi2l C dL_law_374 ?_
  refine xlcmp C dL_law_375 ?_
  refine xif_eq C (tgt := 381) dL_law_376 (by decide) (fun hz => kend) (fun hz => absurd (by rw [hO]; exact lg_cmp_self _) hz)
set_option maxHeartbeats 4000000 in
set_option maxRecDepth 100000 in
theorem q_byteAt (hl9 : l.stackTraces = false) (C : CX p R s m args meth c cL_law 9 RL (some .boolean) G tc A 60) {b L : Nat} {xs : Nat → Int32} (hX : va_X b L xs s s.heap) (hbl : b < s.heap.size) (hbA : ¬ A b) (hL : L < 2 ^ 31) (qo qd a0 : Nat) (u : Nat → Nat → Nat) (aX : Nat → Nat) (o : Nat → Int64) (od : Nat → UInt64) (S : CS) (T : RS) (i : Nat) (hi : i + 5 ≤ L) (hR : cells + 3 ≤ R.cells ∧ slots + 18 ≤ R.slots) (hn : sN S ≤ 48) (tn : zN T ≤ 48) (thr : Option String) (hthr : ((thP (sN S) (xs (i + 1)))) = thr) (hth : zT (pByte (xs (i + 1)) T) = cd1 thr) (hval : thr = none → (sB S (xs (i + 1)).toNatClampNeg).toInt64 = (if isInB (xs (i + 1)) 0 (nI (zN T) - 1) = true then (zB T) (xs (i + 1)).toNatClampNeg else 0).toInt64) (kk : xAT p l e R s m args below meth c Q G A 9 (cells + 1) (slots + 6 * 1) (lwW tc qo qd a0 u aX (if thr = none then vp_updL o 0 ((sB S (xs (i + 1)).toNatClampNeg).toInt64) else o) (od) (if thr = none then S else S) (pByte (xs (i + 1)) T)) [some (.ref b), some (.ref a0), some (.ref (aX 0)), some (.ref qo), some (.ref qd), some (.int (nI i)), none, none, none] 1624 []) : xAT p l e R s m args below meth c Q G A 9 (cells) (slots) (lwW tc qo qd a0 u aX (o) (od) (S) (T)) [some (.ref b), some (.ref a0), some (.ref (aX 0)), some (.ref qo), some (.ref qd), some (.int (nI i)), none, none, none] 397 [] := by
  have hR1 := hR.1
  have hR2 := hR.2
  refine xaload_1 C dL_law_397 ?_
  refine xaload_0 C dL_law_398 ?_
  refine xiload_5 C dL_law_399 ?_
  refine xiconst C (nI 1) dL_law_401 (by decide) ?_
  refine xiadd C dL_law_402 ?_
  rw [nI_add]
  refine xsld C hX hbl hbA (i + 1) dL_law_403 rfl (by omega) hL ?_
  refine xaload_3 C dL_law_404 ?_
  refine lwh C mh_byteAt k_L_112 (h_byteAt l hl9 G tc a0 u S hn (xs (i + 1)) qo o thr hthr) dL_law_405 rfl (by decide) rfl (Nat.le_of_ble_eq_true rfl) ⟨by omega, by omega⟩ ?_
  refine xistore_6 C dL_law_408 rfl (by decide) ?_
  refine xaload_2 C dL_law_410 ?_
  refine xaload_0 C dL_law_411 ?_
  refine xiload_5 C dL_law_412 ?_
  refine xiconst C (nI 1) dL_law_414 (by decide) ?_
  refine xiadd C dL_law_415 ?_
  rw [nI_add]
  refine xsld C hX hbl hbA (i + 1) dL_law_416 rfl (by omega) hL ?_
  refine lwmi C m_X6_byteAt k_L_114 (g_byteAt l G tc aX T tn (xs (i + 1))) dL_law_417 rfl (by decide) rfl (Nat.le_of_ble_eq_true rfl) ⟨by omega, by omega⟩ ?_
  refine xistore_7 C dL_law_420 rfl (by decide) ?_
  refine xaload_2 C dL_law_422 ?_
  refine lwmi C m_X6_thrown k_L_97 (g_thrown l G tc aX (pByte (xs (i + 1)) T)) dL_law_423 rfl (by decide) rfl (Nat.le_of_ble_eq_true rfl) ⟨by omega, by omega⟩ ?_
  refine xiload_6 C dL_law_426 ?_
  refine xicmp_eq C (tgt := 433) dL_law_428 (by decide) (fun hq => ?_) (fun hq => absurd hth hq)
  refine xiload_6 C dL_law_433 ?_
  have kend : xAT p l e R s m args below meth c Q G A 9 (cells + 1) (slots + 6 * 1) (lwW tc qo qd a0 u aX (if thr = none then vp_updL o 0 ((sB S (xs (i + 1)).toNatClampNeg).toInt64) else o) (od) (if thr = none then S else S) (pByte (xs (i + 1)) T)) [some (.ref b), some (.ref a0), some (.ref (aX 0)), some (.ref qo), some (.ref qd), some (.int (nI i)), some (.int (cd1 thr)), some (.int (if isInB (xs (i + 1)) 0 (nI (zN T) - 1) = true then (zB T) (xs (i + 1)).toNatClampNeg else 0)), none] 450 [] := by
    refine xgoto C (tgt := 1624) dL_law_450 (by decide) ?_
    exact xfg_6 (xfg_7 kk)
  refine xif_ne C (tgt := 450) dL_law_435 (by decide) (fun hq => kend) (fun hq => ?_)
  have hN := cd1_0 hq
  have hv := hval hN
  have hO : (if thr = none then vp_updL o 0 ((sB S (xs (i + 1)).toNatClampNeg).toInt64) else o) 0 = (if isInB (xs (i + 1)) 0 (nI (zN T) - 1) = true then (zB T) (xs (i + 1)).toNatClampNeg else 0).toInt64 := by rw [if_pos hN, ← hv]; rfl
  refine xaload_3 C dL_law_438 ?_
  refine xiconst C (nI 0) dL_law_439 (by decide) ?_
  refine xlaldN C 0 0 dL_law_440 rfl (by decide) rfl (by decide) ?_
  refine xiload_7 C dL_law_441 ?_
  refine xi2l C dL_law_443 ?_
  refine xlcmp C dL_law_444 ?_
  refine xif_eq C (tgt := 450) dL_law_445 (by decide) (fun hz => kend) (fun hz => absurd (by rw [hO]; exact lg_cmp_self _) hz)
set_option maxHeartbeats 4000000 in
set_option maxRecDepth 100000 in
theorem q_setEscape (hl9 : l.stackTraces = false) (C : CX p R s m args meth c cL_law 9 RL (some .boolean) G tc A 60) {b L : Nat} {xs : Nat → Int32} (hX : va_X b L xs s s.heap) (hbl : b < s.heap.size) (hbA : ¬ A b) (hL : L < 2 ^ 31) (qo qd a0 : Nat) (u : Nat → Nat → Nat) (aX : Nat → Nat) (o : Nat → Int64) (od : Nat → UInt64) (S : CS) (T : RS) (i : Nat) (hi : i + 5 ≤ L) (hR : cells + 3 ≤ R.cells ∧ slots + 18 ≤ R.slots) (thr : Option String) (hthr : ((if (!decide ((xs (i + 1)) = -1) && !txB (xs (i + 1))) = true then some xIA else none)) = thr) (hth : zT (pEsc (xs (i + 1)) T) = cd1 thr) (hval : thr = none → (sE S).toInt64 = (if (decide ((xs (i + 1)) = -1) || txB (xs (i + 1))) = true then (zE T) else 0).toInt64) (kk : xAT p l e R s m args below meth c Q G A 9 (cells + 1) (slots + 6 * 1) (lwW tc qo qd a0 u aX (if thr = none then vp_updL o 0 ((sE S).toInt64) else o) (od) (if thr = none then oEsc (xs (i + 1)) S else S) (pEsc (xs (i + 1)) T)) [some (.ref b), some (.ref a0), some (.ref (aX 0)), some (.ref qo), some (.ref qd), some (.int (nI i)), none, none, none] 1624 []) : xAT p l e R s m args below meth c Q G A 9 (cells) (slots) (lwW tc qo qd a0 u aX (o) (od) (S) (T)) [some (.ref b), some (.ref a0), some (.ref (aX 0)), some (.ref qo), some (.ref qd), some (.int (nI i)), none, none, none] 453 [] := by
  have hR1 := hR.1
  have hR2 := hR.2
  refine xaload_1 C dL_law_453 ?_
  refine xaload_0 C dL_law_454 ?_
  refine xiload_5 C dL_law_455 ?_
  refine xiconst C (nI 1) dL_law_457 (by decide) ?_
  refine xiadd C dL_law_458 ?_
  rw [nI_add]
  refine xsld C hX hbl hbA (i + 1) dL_law_459 rfl (by omega) hL ?_
  refine xaload_3 C dL_law_460 ?_
  refine lwh C mh_setEscape k_L_115 (h_setEscape l hl9 G tc a0 u S  (xs (i + 1)) qo o thr hthr) dL_law_461 rfl (by decide) rfl (Nat.le_of_ble_eq_true rfl) ⟨by omega, by omega⟩ ?_
  refine xistore_6 C dL_law_464 rfl (by decide) ?_
  refine xaload_2 C dL_law_466 ?_
  refine xaload_0 C dL_law_467 ?_
  refine xiload_5 C dL_law_468 ?_
  refine xiconst C (nI 1) dL_law_470 (by decide) ?_
  refine xiadd C dL_law_471 ?_
  rw [nI_add]
  refine xsld C hX hbl hbA (i + 1) dL_law_472 rfl (by omega) hL ?_
  refine lwmi C m_X6_setEscape k_L_117 (g_setEscape l G tc aX T  (xs (i + 1))) dL_law_473 rfl (by decide) rfl (Nat.le_of_ble_eq_true rfl) ⟨by omega, by omega⟩ ?_
  refine xistore_7 C dL_law_476 rfl (by decide) ?_
  refine xaload_2 C dL_law_478 ?_
  refine lwmi C m_X6_thrown k_L_97 (g_thrown l G tc aX (pEsc (xs (i + 1)) T)) dL_law_479 rfl (by decide) rfl (Nat.le_of_ble_eq_true rfl) ⟨by omega, by omega⟩ ?_
  refine xiload_6 C dL_law_482 ?_
  refine xicmp_eq C (tgt := 489) dL_law_484 (by decide) (fun hq => ?_) (fun hq => absurd hth hq)
  refine xiload_6 C dL_law_489 ?_
  have kend : xAT p l e R s m args below meth c Q G A 9 (cells + 1) (slots + 6 * 1) (lwW tc qo qd a0 u aX (if thr = none then vp_updL o 0 ((sE S).toInt64) else o) (od) (if thr = none then oEsc (xs (i + 1)) S else S) (pEsc (xs (i + 1)) T)) [some (.ref b), some (.ref a0), some (.ref (aX 0)), some (.ref qo), some (.ref qd), some (.int (nI i)), some (.int (cd1 thr)), some (.int (if (decide ((xs (i + 1)) = -1) || txB (xs (i + 1))) = true then (zE T) else 0)), none] 506 [] := by
    refine xgoto C (tgt := 1624) dL_law_506 (by decide) ?_
    exact xfg_6 (xfg_7 kk)
  refine xif_ne C (tgt := 506) dL_law_491 (by decide) (fun hq => kend) (fun hq => ?_)
  have hN := cd1_0 hq
  have hv := hval hN
  have hO : (if thr = none then vp_updL o 0 ((sE S).toInt64) else o) 0 = (if (decide ((xs (i + 1)) = -1) || txB (xs (i + 1))) = true then (zE T) else 0).toInt64 := by rw [if_pos hN, ← hv]; rfl
  refine xaload_3 C dL_law_494 ?_
  refine xiconst C (nI 0) dL_law_495 (by decide) ?_
  refine xlaldN C 0 0 dL_law_496 rfl (by decide) rfl (by decide) ?_
  refine xiload_7 C dL_law_497 ?_
  refine xi2l C dL_law_499 ?_
  refine xlcmp C dL_law_500 ?_
  refine xif_eq C (tgt := 506) dL_law_501 (by decide) (fun hz => kend) (fun hz => absurd (by rw [hO]; exact lg_cmp_self _) hz)
set_option maxHeartbeats 4000000 in
set_option maxRecDepth 100000 in
theorem q_setWord (hl9 : l.stackTraces = false) (C : CX p R s m args meth c cL_law 9 RL (some .boolean) G tc A 60) {b L : Nat} {xs : Nat → Int32} (hX : va_X b L xs s s.heap) (hbl : b < s.heap.size) (hbA : ¬ A b) (hL : L < 2 ^ 31) (qo qd a0 : Nat) (u : Nat → Nat → Nat) (aX : Nat → Nat) (o : Nat → Int64) (od : Nat → UInt64) (S : CS) (T : RS) (i : Nat) (hi : i + 5 ≤ L) (hR : cells + 3 ≤ R.cells ∧ slots + 18 ≤ R.slots) (tz : ∀ w, zZ T w ≤ 3) (thr : Option String) (hthr : ((thW (xs (i + 1)) (xs (i + 3)) (xs (i + 4)))) = thr) (hth : zT (pWord (xs (i + 1)) (nb (xs (i + 2))) (xs (i + 3)) (xs (i + 4)) T) = cd2 xIO thr) (hval : thr = none → (bI (cpl (sO (oWord (xs (i + 1)) (nb (xs (i + 2))) (xs (i + 3)) (xs (i + 4)) S)) (sC (oWord (xs (i + 1)) (nb (xs (i + 2))) (xs (i + 3)) (xs (i + 4)) S)) (xs (i + 1)))).toInt64 = (bI (if swTm (xs (i + 1)) (xs (i + 3)) (xs (i + 4)) = 0 then cplM (updN (zZ T) (swI (xs (i + 1)) (nb (xs (i + 2)))) (xs (i + 4)).toNatClampNeg) (xs (i + 1)).toNatClampNeg else false)).toInt64) (kk : xAT p l e R s m args below meth c Q G A 9 (cells + 2) (slots + 6 * 2) (lwW tc qo qd a0 u aX (if thr = none then vp_updL o 0 ((bI (cpl (sO (oWord (xs (i + 1)) (nb (xs (i + 2))) (xs (i + 3)) (xs (i + 4)) S)) (sC (oWord (xs (i + 1)) (nb (xs (i + 2))) (xs (i + 3)) (xs (i + 4)) S)) (xs (i + 1)))).toInt64) else o) (od) (if thr = none then oWord (xs (i + 1)) (nb (xs (i + 2))) (xs (i + 3)) (xs (i + 4)) S else S) (pWord (xs (i + 1)) (nb (xs (i + 2))) (xs (i + 3)) (xs (i + 4)) T)) [some (.ref b), some (.ref a0), some (.ref (aX 0)), some (.ref qo), some (.ref qd), some (.int (nI i)), none, none, none] 1624 []) : xAT p l e R s m args below meth c Q G A 9 (cells) (slots) (lwW tc qo qd a0 u aX (o) (od) (S) (T)) [some (.ref b), some (.ref a0), some (.ref (aX 0)), some (.ref qo), some (.ref qd), some (.int (nI i)), none, none, none] 509 [] := by
  have hR1 := hR.1
  have hR2 := hR.2
  refine xaload_1 C dL_law_509 ?_
  refine xaload_0 C dL_law_510 ?_
  refine xiload_5 C dL_law_511 ?_
  refine xiconst C (nI 1) dL_law_513 (by decide) ?_
  refine xiadd C dL_law_514 ?_
  rw [nI_add]
  refine xsld C hX hbl hbA (i + 1) dL_law_515 rfl (by omega) hL ?_
  refine xaload_0 C dL_law_516 ?_
  refine xiload_5 C dL_law_517 ?_
  refine xiconst C (nI 2) dL_law_519 (by decide) ?_
  refine xiadd C dL_law_520 ?_
  rw [nI_add]
  refine xsld C hX hbl hbA (i + 2) dL_law_521 rfl (by omega) hL ?_
  refine xbool C dL_law_522 dL_law_525 dL_law_526 dL_law_529 ?_
  refine xaload_0 C dL_law_530 ?_
  refine xiload_5 C dL_law_531 ?_
  refine xiconst C (nI 3) dL_law_533 (by decide) ?_
  refine xiadd C dL_law_534 ?_
  rw [nI_add]
  refine xsld C hX hbl hbA (i + 3) dL_law_535 rfl (by omega) hL ?_
  refine xaload_0 C dL_law_536 ?_
  refine xiload_5 C dL_law_537 ?_
  refine xiconst C (nI 4) dL_law_539 (by decide) ?_
  refine xiadd C dL_law_540 ?_
  rw [nI_add]
  refine xsld C hX hbl hbA (i + 4) dL_law_541 rfl (by omega) hL ?_
  refine xaload_3 C dL_law_542 ?_
  refine lwh C mh_setWord k_L_118 (h_setWord l hl9 G tc a0 u S  (xs (i + 1)) (nb (xs (i + 2))) (xs (i + 3)) (xs (i + 4)) qo o thr hthr) dL_law_543 rfl (by decide) rfl (Nat.le_of_ble_eq_true rfl) ⟨by omega, by omega⟩ ?_
  refine xistore_6 C dL_law_546 rfl (by decide) ?_
  refine xaload_2 C dL_law_548 ?_
  refine xaload_0 C dL_law_549 ?_
  refine xiload_5 C dL_law_550 ?_
  refine xiconst C (nI 1) dL_law_552 (by decide) ?_
  refine xiadd C dL_law_553 ?_
  rw [nI_add]
  refine xsld C hX hbl hbA (i + 1) dL_law_554 rfl (by omega) hL ?_
  refine xaload_0 C dL_law_555 ?_
  refine xiload_5 C dL_law_556 ?_
  refine xiconst C (nI 2) dL_law_558 (by decide) ?_
  refine xiadd C dL_law_559 ?_
  rw [nI_add]
  refine xsld C hX hbl hbA (i + 2) dL_law_560 rfl (by omega) hL ?_
  refine xbool C dL_law_561 dL_law_564 dL_law_565 dL_law_568 ?_
  refine xaload_0 C dL_law_569 ?_
  refine xiload_5 C dL_law_570 ?_
  refine xiconst C (nI 3) dL_law_572 (by decide) ?_
  refine xiadd C dL_law_573 ?_
  rw [nI_add]
  refine xsld C hX hbl hbA (i + 3) dL_law_574 rfl (by omega) hL ?_
  refine xaload_0 C dL_law_575 ?_
  refine xiload_5 C dL_law_576 ?_
  refine xiconst C (nI 4) dL_law_578 (by decide) ?_
  refine xiadd C dL_law_579 ?_
  rw [nI_add]
  refine xsld C hX hbl hbA (i + 4) dL_law_580 rfl (by omega) hL ?_
  refine lwmi C m_X6_setWord k_L_121 (g_setWord l G tc aX T tz (xs (i + 1)) (nb (xs (i + 2))) (xs (i + 3)) (xs (i + 4))) dL_law_581 rfl (by decide) rfl (Nat.le_of_ble_eq_true rfl) ⟨by omega, by omega⟩ ?_
  refine xistore_7 C dL_law_584 rfl (by decide) ?_
  refine xaload_2 C dL_law_586 ?_
  refine lwmi C m_X6_thrown k_L_97 (g_thrown l G tc aX (pWord (xs (i + 1)) (nb (xs (i + 2))) (xs (i + 3)) (xs (i + 4)) T)) dL_law_587 rfl (by decide) rfl (Nat.le_of_ble_eq_true rfl) ⟨by omega, by omega⟩ ?_
  refine xiload_6 C dL_law_590 ?_
  refine xicmp_eq C (tgt := 597) dL_law_592 (by decide) (fun hq => ?_) (fun hq => absurd hth hq)
  refine xiload_6 C dL_law_597 ?_
  have kend : xAT p l e R s m args below meth c Q G A 9 (cells + 2) (slots + 6 * 2) (lwW tc qo qd a0 u aX (if thr = none then vp_updL o 0 ((bI (cpl (sO (oWord (xs (i + 1)) (nb (xs (i + 2))) (xs (i + 3)) (xs (i + 4)) S)) (sC (oWord (xs (i + 1)) (nb (xs (i + 2))) (xs (i + 3)) (xs (i + 4)) S)) (xs (i + 1)))).toInt64) else o) (od) (if thr = none then oWord (xs (i + 1)) (nb (xs (i + 2))) (xs (i + 3)) (xs (i + 4)) S else S) (pWord (xs (i + 1)) (nb (xs (i + 2))) (xs (i + 3)) (xs (i + 4)) T)) [some (.ref b), some (.ref a0), some (.ref (aX 0)), some (.ref qo), some (.ref qd), some (.int (nI i)), some (.int (cd2 xIO thr)), some (.int (bI (if swTm (xs (i + 1)) (xs (i + 3)) (xs (i + 4)) = 0 then cplM (updN (zZ T) (swI (xs (i + 1)) (nb (xs (i + 2)))) (xs (i + 4)).toNatClampNeg) (xs (i + 1)).toNatClampNeg else false))), none] 621 [] := by
    refine xgoto C (tgt := 1624) dL_law_621 (by decide) ?_
    exact xfg_6 (xfg_7 kk)
  refine xif_ne C (tgt := 621) dL_law_599 (by decide) (fun hq => kend) (fun hq => ?_)
  have hN := cd2_0 hq
  have hv := hval hN
  have hO : (if thr = none then vp_updL o 0 ((bI (cpl (sO (oWord (xs (i + 1)) (nb (xs (i + 2))) (xs (i + 3)) (xs (i + 4)) S)) (sC (oWord (xs (i + 1)) (nb (xs (i + 2))) (xs (i + 3)) (xs (i + 4)) S)) (xs (i + 1)))).toInt64) else o) 0 = (bI (if swTm (xs (i + 1)) (xs (i + 3)) (xs (i + 4)) = 0 then cplM (updN (zZ T) (swI (xs (i + 1)) (nb (xs (i + 2)))) (xs (i + 4)).toNatClampNeg) (xs (i + 1)).toNatClampNeg else false)).toInt64 := by rw [if_pos hN, ← hv]; rfl
  refine xaload_3 C dL_law_602 ?_
  refine xiconst C (nI 0) dL_law_603 (by decide) ?_
  refine xlaldN C 0 0 dL_law_604 rfl (by decide) rfl (by decide) ?_
  refine xiload_7 C dL_law_605 ?_
  refine xboolL C dL_law_607 dL_law_610 dL_law_611 dL_law_614 ?_
  refine xlcmp C dL_law_615 ?_
  refine xif_eq C (tgt := 621) dL_law_616 (by decide) (fun hz => kend) (fun hz => absurd (by rw [hO]; exact lg_cmp_self _) hz)
set_option maxHeartbeats 4000000 in
set_option maxRecDepth 100000 in
theorem q_setKind (hl9 : l.stackTraces = false) (C : CX p R s m args meth c cL_law 9 RL (some .boolean) G tc A 60) {b L : Nat} {xs : Nat → Int32} (hX : va_X b L xs s s.heap) (hbl : b < s.heap.size) (hbA : ¬ A b) (hL : L < 2 ^ 31) (qo qd a0 : Nat) (u : Nat → Nat → Nat) (aX : Nat → Nat) (o : Nat → Int64) (od : Nat → UInt64) (S : CS) (T : RS) (i : Nat) (hi : i + 5 ≤ L) (hR : cells + 3 ≤ R.cells ∧ slots + 18 ≤ R.slots) (thr : Option String) (hthr : ((thS (xs (i + 1)) (xs (i + 4)))) = thr) (hth : zT (pKind (xs (i + 1)) (nb (xs (i + 2))) (nb (xs (i + 3))) (xs (i + 4)) T) = cd2 xIO thr) (hval : thr = none → (sJ S (xs (i + 1)).toNatClampNeg).toInt64 = (if inB6 (xs (i + 1)) = true then (if isInB (xs (i + 4)) 0 63 = true then (zJ T) (xs (i + 1)).toNatClampNeg else 0) else 0).toInt64) (kk : xAT p l e R s m args below meth c Q G A 9 (cells + 2) (slots + 6 * 2) (lwW tc qo qd a0 u aX (if thr = none then vp_updL o 0 ((sJ S (xs (i + 1)).toNatClampNeg).toInt64) else o) (od) (if thr = none then oKind (xs (i + 1)) (nb (xs (i + 2))) (nb (xs (i + 3))) (xs (i + 4)) S else S) (pKind (xs (i + 1)) (nb (xs (i + 2))) (nb (xs (i + 3))) (xs (i + 4)) T)) [some (.ref b), some (.ref a0), some (.ref (aX 0)), some (.ref qo), some (.ref qd), some (.int (nI i)), none, none, none] 1624 []) : xAT p l e R s m args below meth c Q G A 9 (cells) (slots) (lwW tc qo qd a0 u aX (o) (od) (S) (T)) [some (.ref b), some (.ref a0), some (.ref (aX 0)), some (.ref qo), some (.ref qd), some (.int (nI i)), none, none, none] 624 [] := by
  have hR1 := hR.1
  have hR2 := hR.2
  refine xaload_1 C dL_law_624 ?_
  refine xaload_0 C dL_law_625 ?_
  refine xiload_5 C dL_law_626 ?_
  refine xiconst C (nI 1) dL_law_628 (by decide) ?_
  refine xiadd C dL_law_629 ?_
  rw [nI_add]
  refine xsld C hX hbl hbA (i + 1) dL_law_630 rfl (by omega) hL ?_
  refine xaload_0 C dL_law_631 ?_
  refine xiload_5 C dL_law_632 ?_
  refine xiconst C (nI 2) dL_law_634 (by decide) ?_
  refine xiadd C dL_law_635 ?_
  rw [nI_add]
  refine xsld C hX hbl hbA (i + 2) dL_law_636 rfl (by omega) hL ?_
  refine xbool C dL_law_637 dL_law_640 dL_law_641 dL_law_644 ?_
  refine xaload_0 C dL_law_645 ?_
  refine xiload_5 C dL_law_646 ?_
  refine xiconst C (nI 3) dL_law_648 (by decide) ?_
  refine xiadd C dL_law_649 ?_
  rw [nI_add]
  refine xsld C hX hbl hbA (i + 3) dL_law_650 rfl (by omega) hL ?_
  refine xbool C dL_law_651 dL_law_654 dL_law_655 dL_law_658 ?_
  refine xaload_0 C dL_law_659 ?_
  refine xiload_5 C dL_law_660 ?_
  refine xiconst C (nI 4) dL_law_662 (by decide) ?_
  refine xiadd C dL_law_663 ?_
  rw [nI_add]
  refine xsld C hX hbl hbA (i + 4) dL_law_664 rfl (by omega) hL ?_
  refine xaload_3 C dL_law_665 ?_
  refine lwh C mh_setKind k_L_122 (h_setKind l hl9 G tc a0 u S  (xs (i + 1)) (nb (xs (i + 2))) (nb (xs (i + 3))) (xs (i + 4)) qo o thr hthr) dL_law_666 rfl (by decide) rfl (Nat.le_of_ble_eq_true rfl) ⟨by omega, by omega⟩ ?_
  refine xistore_6 C dL_law_669 rfl (by decide) ?_
  refine xaload_2 C dL_law_671 ?_
  refine xaload_0 C dL_law_672 ?_
  refine xiload_5 C dL_law_673 ?_
  refine xiconst C (nI 1) dL_law_675 (by decide) ?_
  refine xiadd C dL_law_676 ?_
  rw [nI_add]
  refine xsld C hX hbl hbA (i + 1) dL_law_677 rfl (by omega) hL ?_
  refine xaload_0 C dL_law_678 ?_
  refine xiload_5 C dL_law_679 ?_
  refine xiconst C (nI 2) dL_law_681 (by decide) ?_
  refine xiadd C dL_law_682 ?_
  rw [nI_add]
  refine xsld C hX hbl hbA (i + 2) dL_law_683 rfl (by omega) hL ?_
  refine xbool C dL_law_684 dL_law_687 dL_law_688 dL_law_691 ?_
  refine xaload_0 C dL_law_692 ?_
  refine xiload_5 C dL_law_693 ?_
  refine xiconst C (nI 3) dL_law_695 (by decide) ?_
  refine xiadd C dL_law_696 ?_
  rw [nI_add]
  refine xsld C hX hbl hbA (i + 3) dL_law_697 rfl (by omega) hL ?_
  refine xbool C dL_law_698 dL_law_701 dL_law_702 dL_law_705 ?_
  refine xaload_0 C dL_law_706 ?_
  refine xiload_5 C dL_law_707 ?_
  refine xiconst C (nI 4) dL_law_709 (by decide) ?_
  refine xiadd C dL_law_710 ?_
  rw [nI_add]
  refine xsld C hX hbl hbA (i + 4) dL_law_711 rfl (by omega) hL ?_
  refine lwmi C m_X6_setKind k_L_125 (g_setKind l G tc aX T  (xs (i + 1)) (nb (xs (i + 2))) (nb (xs (i + 3))) (xs (i + 4))) dL_law_712 rfl (by decide) rfl (Nat.le_of_ble_eq_true rfl) ⟨by omega, by omega⟩ ?_
  refine xistore_7 C dL_law_715 rfl (by decide) ?_
  refine xaload_2 C dL_law_717 ?_
  refine lwmi C m_X6_thrown k_L_97 (g_thrown l G tc aX (pKind (xs (i + 1)) (nb (xs (i + 2))) (nb (xs (i + 3))) (xs (i + 4)) T)) dL_law_718 rfl (by decide) rfl (Nat.le_of_ble_eq_true rfl) ⟨by omega, by omega⟩ ?_
  refine xiload_6 C dL_law_721 ?_
  refine xicmp_eq C (tgt := 728) dL_law_723 (by decide) (fun hq => ?_) (fun hq => absurd hth hq)
  refine xiload_6 C dL_law_728 ?_
  have kend : xAT p l e R s m args below meth c Q G A 9 (cells + 2) (slots + 6 * 2) (lwW tc qo qd a0 u aX (if thr = none then vp_updL o 0 ((sJ S (xs (i + 1)).toNatClampNeg).toInt64) else o) (od) (if thr = none then oKind (xs (i + 1)) (nb (xs (i + 2))) (nb (xs (i + 3))) (xs (i + 4)) S else S) (pKind (xs (i + 1)) (nb (xs (i + 2))) (nb (xs (i + 3))) (xs (i + 4)) T)) [some (.ref b), some (.ref a0), some (.ref (aX 0)), some (.ref qo), some (.ref qd), some (.int (nI i)), some (.int (cd2 xIO thr)), some (.int (if inB6 (xs (i + 1)) = true then (if isInB (xs (i + 4)) 0 63 = true then (zJ T) (xs (i + 1)).toNatClampNeg else 0) else 0)), none] 745 [] := by
    refine xgoto C (tgt := 1624) dL_law_745 (by decide) ?_
    exact xfg_6 (xfg_7 kk)
  refine xif_ne C (tgt := 745) dL_law_730 (by decide) (fun hq => kend) (fun hq => ?_)
  have hN := cd2_0 hq
  have hv := hval hN
  have hO : (if thr = none then vp_updL o 0 ((sJ S (xs (i + 1)).toNatClampNeg).toInt64) else o) 0 = (if inB6 (xs (i + 1)) = true then (if isInB (xs (i + 4)) 0 63 = true then (zJ T) (xs (i + 1)).toNatClampNeg else 0) else 0).toInt64 := by rw [if_pos hN, ← hv]; rfl
  refine xaload_3 C dL_law_733 ?_
  refine xiconst C (nI 0) dL_law_734 (by decide) ?_
  refine xlaldN C 0 0 dL_law_735 rfl (by decide) rfl (by decide) ?_
  refine xiload_7 C dL_law_736 ?_
  refine xi2l C dL_law_738 ?_
  refine xlcmp C dL_law_739 ?_
  refine xif_eq C (tgt := 745) dL_law_740 (by decide) (fun hz => kend) (fun hz => absurd (by rw [hO]; exact lg_cmp_self _) hz)
set_option maxHeartbeats 4000000 in
set_option maxRecDepth 100000 in
theorem q_mark (hl9 : l.stackTraces = false) (C : CX p R s m args meth c cL_law 9 RL (some .boolean) G tc A 60) {b L : Nat} {xs : Nat → Int32} (hX : va_X b L xs s s.heap) (hbl : b < s.heap.size) (hbA : ¬ A b) (hL : L < 2 ^ 31) (qo qd a0 : Nat) (u : Nat → Nat → Nat) (aX : Nat → Nat) (o : Nat → Int64) (od : Nat → UInt64) (S : CS) (T : RS) (i : Nat) (hi : i + 5 ≤ L) (hR : cells + 3 ≤ R.cells ∧ slots + 18 ≤ R.slots) (hn : sN S ≤ 48) (hrm : (oMk S).2.2.2.2 ≤ 48) (tz : ∀ w, zZ T w ≤ 3) (tn : zN T ≤ 48) (thr : Option String) (hthr : ((if (decide ((xs (i + 1)) < 0) || !decide ((xs (i + 1)) < nI (oMk S).2.2.2.2)) = true then some xIO else none)) = thr) (hth : zT (pMarkX (xs (i + 1)) T) = cd1 thr) (hval : thr = none → ((oMk S).1 (xs (i + 1)).toNatClampNeg).toInt64 = (if isInB (xs (i + 1)) 0 (nI (pMk T).1 - 1) = true then nI ((pMk T).2.1 (xs (i + 1)).toNatClampNeg) else 0).toInt64) (kk : xAT p l e R s m args below meth c Q G A 9 (cells + 1) (slots + 6 * 1) (lwW tc qo qd a0 u aX (if thr = none then vp_updL o 0 (((oMk S).1 (xs (i + 1)).toNatClampNeg).toInt64) else o) (od) (if thr = none then oMark S else oMark S) (pMarkX (xs (i + 1)) T)) [some (.ref b), some (.ref a0), some (.ref (aX 0)), some (.ref qo), some (.ref qd), some (.int (nI i)), none, none, none] 1624 []) : xAT p l e R s m args below meth c Q G A 9 (cells) (slots) (lwW tc qo qd a0 u aX (o) (od) (S) (T)) [some (.ref b), some (.ref a0), some (.ref (aX 0)), some (.ref qo), some (.ref qd), some (.int (nI i)), none, none, none] 841 [] := by
  have hR1 := hR.1
  have hR2 := hR.2
  refine xaload_1 C dL_law_841 ?_
  refine xaload_0 C dL_law_842 ?_
  refine xiload_5 C dL_law_843 ?_
  refine xiconst C (nI 1) dL_law_845 (by decide) ?_
  refine xiadd C dL_law_846 ?_
  rw [nI_add]
  refine xsld C hX hbl hbA (i + 1) dL_law_847 rfl (by omega) hL ?_
  refine xaload_3 C dL_law_848 ?_
  refine lwh C mh_mark k_L_148 (h_mark l hl9 G tc a0 u S hn hrm (xs (i + 1)) qo o thr hthr) dL_law_849 rfl (by decide) rfl (Nat.le_of_ble_eq_true rfl) ⟨by omega, by omega⟩ ?_
  refine xistore_6 C dL_law_852 rfl (by decide) ?_
  refine xaload_2 C dL_law_854 ?_
  refine xaload_0 C dL_law_855 ?_
  refine xiload_5 C dL_law_856 ?_
  refine xiconst C (nI 1) dL_law_858 (by decide) ?_
  refine xiadd C dL_law_859 ?_
  rw [nI_add]
  refine xsld C hX hbl hbA (i + 1) dL_law_860 rfl (by omega) hL ?_
  refine lwmi C m_X6_mark k_L_150 (g_mark l G tc aX T tz tn (xs (i + 1))) dL_law_861 rfl (by decide) rfl (Nat.le_of_ble_eq_true rfl) ⟨by omega, by omega⟩ ?_
  refine xistore_7 C dL_law_864 rfl (by decide) ?_
  refine xaload_2 C dL_law_866 ?_
  refine lwmi C m_X6_thrown k_L_97 (g_thrown l G tc aX (pMarkX (xs (i + 1)) T)) dL_law_867 rfl (by decide) rfl (Nat.le_of_ble_eq_true rfl) ⟨by omega, by omega⟩ ?_
  refine xiload_6 C dL_law_870 ?_
  refine xicmp_eq C (tgt := 877) dL_law_872 (by decide) (fun hq => ?_) (fun hq => absurd hth hq)
  refine xiload_6 C dL_law_877 ?_
  have kend : xAT p l e R s m args below meth c Q G A 9 (cells + 1) (slots + 6 * 1) (lwW tc qo qd a0 u aX (if thr = none then vp_updL o 0 (((oMk S).1 (xs (i + 1)).toNatClampNeg).toInt64) else o) (od) (if thr = none then oMark S else oMark S) (pMarkX (xs (i + 1)) T)) [some (.ref b), some (.ref a0), some (.ref (aX 0)), some (.ref qo), some (.ref qd), some (.int (nI i)), some (.int (cd1 thr)), some (.int (if isInB (xs (i + 1)) 0 (nI (pMk T).1 - 1) = true then nI ((pMk T).2.1 (xs (i + 1)).toNatClampNeg) else 0)), none] 894 [] := by
    refine xgoto C (tgt := 1624) dL_law_894 (by decide) ?_
    exact xfg_6 (xfg_7 kk)
  refine xif_ne C (tgt := 894) dL_law_879 (by decide) (fun hq => kend) (fun hq => ?_)
  have hN := cd1_0 hq
  have hv := hval hN
  have hO : (if thr = none then vp_updL o 0 (((oMk S).1 (xs (i + 1)).toNatClampNeg).toInt64) else o) 0 = (if isInB (xs (i + 1)) 0 (nI (pMk T).1 - 1) = true then nI ((pMk T).2.1 (xs (i + 1)).toNatClampNeg) else 0).toInt64 := by rw [if_pos hN, ← hv]; rfl
  refine xaload_3 C dL_law_882 ?_
  refine xiconst C (nI 0) dL_law_883 (by decide) ?_
  refine xlaldN C 0 0 dL_law_884 rfl (by decide) rfl (by decide) ?_
  refine xiload_7 C dL_law_885 ?_
  refine xi2l C dL_law_887 ?_
  refine xlcmp C dL_law_888 ?_
  refine xif_eq C (tgt := 894) dL_law_889 (by decide) (fun hz => kend) (fun hz => absurd (by rw [hO]; exact lg_cmp_self _) hz)
set_option maxHeartbeats 4000000 in
set_option maxRecDepth 100000 in
theorem q_islandCount (hl9 : l.stackTraces = false) (C : CX p R s m args meth c cL_law 9 RL (some .boolean) G tc A 60) {b L : Nat} {xs : Nat → Int32} (hX : va_X b L xs s s.heap) (hbl : b < s.heap.size) (hbA : ¬ A b) (hL : L < 2 ^ 31) (qo qd a0 : Nat) (u : Nat → Nat → Nat) (aX : Nat → Nat) (o : Nat → Int64) (od : Nat → UInt64) (S : CS) (T : RS) (i : Nat) (hi : i + 5 ≤ L) (hR : cells + 3 ≤ R.cells ∧ slots + 18 ≤ R.slots) (thr : Option String) (hthr : ((thR (iR (sI S)))) = thr) (hth : zT (pAsk0_islandCount  T) = cd1 thr) (hval : thr = none → (nI (iM (sI S))).toInt64 = (if askT (iR (zI T)) 0 1 = 0 then nI (iM (zI T)) else 0).toInt64) (kk : xAT p l e R s m args below meth c Q G A 9 (cells + 1) (slots + 6 * 1) (lwW tc qo qd a0 u aX (if thr = none then vp_updL o 0 ((nI (iM (sI S))).toInt64) else o) (od) (if thr = none then S else S) (pAsk0_islandCount  T)) [some (.ref b), some (.ref a0), some (.ref (aX 0)), some (.ref qo), some (.ref qd), some (.int (nI i)), none, none, none] 1624 []) : xAT p l e R s m args below meth c Q G A 9 (cells) (slots) (lwW tc qo qd a0 u aX (o) (od) (S) (T)) [some (.ref b), some (.ref a0), some (.ref (aX 0)), some (.ref qo), some (.ref qd), some (.int (nI i)), none, none, none] 897 [] := by
  have hR1 := hR.1
  have hR2 := hR.2
  refine xaload_1 C dL_law_897 ?_
  refine xaload_3 C dL_law_898 ?_
  refine lwh C mh_islandCount k_L_151 (h_islandCount l hl9 G tc a0 u S   qo o thr hthr) dL_law_899 rfl (by decide) rfl (Nat.le_of_ble_eq_true rfl) ⟨by omega, by omega⟩ ?_
  refine xistore_6 C dL_law_902 rfl (by decide) ?_
  refine xaload_2 C dL_law_904 ?_
  refine lwmi C m_X6_islandCount k_L_154 (g_islandCount l G tc aX T  ) dL_law_905 rfl (by decide) rfl (Nat.le_of_ble_eq_true rfl) ⟨by omega, by omega⟩ ?_
  refine xistore_7 C dL_law_908 rfl (by decide) ?_
  refine xaload_2 C dL_law_910 ?_
  refine lwmi C m_X6_thrown k_L_97 (g_thrown l G tc aX (pAsk0_islandCount  T)) dL_law_911 rfl (by decide) rfl (Nat.le_of_ble_eq_true rfl) ⟨by omega, by omega⟩ ?_
  refine xiload_6 C dL_law_914 ?_
  refine xicmp_eq C (tgt := 921) dL_law_916 (by decide) (fun hq => ?_) (fun hq => absurd hth hq)
  refine xiload_6 C dL_law_921 ?_
  have kend : xAT p l e R s m args below meth c Q G A 9 (cells + 1) (slots + 6 * 1) (lwW tc qo qd a0 u aX (if thr = none then vp_updL o 0 ((nI (iM (sI S))).toInt64) else o) (od) (if thr = none then S else S) (pAsk0_islandCount  T)) [some (.ref b), some (.ref a0), some (.ref (aX 0)), some (.ref qo), some (.ref qd), some (.int (nI i)), some (.int (cd1 thr)), some (.int (if askT (iR (zI T)) 0 1 = 0 then nI (iM (zI T)) else 0)), none] 938 [] := by
    refine xgoto C (tgt := 1624) dL_law_938 (by decide) ?_
    exact xfg_6 (xfg_7 kk)
  refine xif_ne C (tgt := 938) dL_law_923 (by decide) (fun hq => kend) (fun hq => ?_)
  have hN := cd1_0 hq
  have hv := hval hN
  have hO : (if thr = none then vp_updL o 0 ((nI (iM (sI S))).toInt64) else o) 0 = (if askT (iR (zI T)) 0 1 = 0 then nI (iM (zI T)) else 0).toInt64 := by rw [if_pos hN, ← hv]; rfl
  refine xaload_3 C dL_law_926 ?_
  refine xiconst C (nI 0) dL_law_927 (by decide) ?_
  refine xlaldN C 0 0 dL_law_928 rfl (by decide) rfl (by decide) ?_
  refine xiload_7 C dL_law_929 ?_
  refine xi2l C dL_law_931 ?_
  refine xlcmp C dL_law_932 ?_
  refine xif_eq C (tgt := 938) dL_law_933 (by decide) (fun hz => kend) (fun hz => absurd (by rw [hO]; exact lg_cmp_self _) hz)
set_option maxHeartbeats 4000000 in
set_option maxRecDepth 100000 in
theorem q_kind (hl9 : l.stackTraces = false) (C : CX p R s m args meth c cL_law 9 RL (some .boolean) G tc A 60) {b L : Nat} {xs : Nat → Int32} (hX : va_X b L xs s s.heap) (hbl : b < s.heap.size) (hbA : ¬ A b) (hL : L < 2 ^ 31) (qo qd a0 : Nat) (u : Nat → Nat → Nat) (aX : Nat → Nat) (o : Nat → Int64) (od : Nat → UInt64) (S : CS) (T : RS) (i : Nat) (hi : i + 5 ≤ L) (hR : cells + 3 ≤ R.cells ∧ slots + 18 ≤ R.slots) (hm : iM (sI S) ≤ 48) (tm : iM (zI T) ≤ 48) (thr : Option String) (hthr : ((thI (iR (sI S)) (iM (sI S)) (xs (i + 1)))) = thr) (hth : zT (pAskI (xs (i + 1)) T) = cd2 xIS thr) (hval : thr = none → (iK (sI S) (xs (i + 1)).toNatClampNeg).toInt64 = (if askT (iR (zI T)) (xs (i + 1)) (nI (iM (zI T))) = 0 then iK (zI T) (xs (i + 1)).toNatClampNeg else 0).toInt64) (kk : xAT p l e R s m args below meth c Q G A 9 (cells + 2) (slots + 6 * 2) (lwW tc qo qd a0 u aX (if thr = none then vp_updL o 0 ((iK (sI S) (xs (i + 1)).toNatClampNeg).toInt64) else o) (od) (if thr = none then S else S) (pAskI (xs (i + 1)) T)) [some (.ref b), some (.ref a0), some (.ref (aX 0)), some (.ref qo), some (.ref qd), some (.int (nI i)), none, none, none] 1624 []) : xAT p l e R s m args below meth c Q G A 9 (cells) (slots) (lwW tc qo qd a0 u aX (o) (od) (S) (T)) [some (.ref b), some (.ref a0), some (.ref (aX 0)), some (.ref qo), some (.ref qd), some (.int (nI i)), none, none, none] 941 [] := by
  have hR1 := hR.1
  have hR2 := hR.2
  refine xaload_1 C dL_law_941 ?_
  refine xaload_0 C dL_law_942 ?_
  refine xiload_5 C dL_law_943 ?_
  refine xiconst C (nI 1) dL_law_945 (by decide) ?_
  refine xiadd C dL_law_946 ?_
  rw [nI_add]
  refine xsld C hX hbl hbA (i + 1) dL_law_947 rfl (by omega) hL ?_
  refine xaload_3 C dL_law_948 ?_
  refine lwh C mh_kind k_L_155 (h_kind l hl9 G tc a0 u S hm (xs (i + 1)) qo o thr hthr) dL_law_949 rfl (by decide) rfl (Nat.le_of_ble_eq_true rfl) ⟨by omega, by omega⟩ ?_
  refine xistore_6 C dL_law_952 rfl (by decide) ?_
  refine xaload_2 C dL_law_954 ?_
  refine xaload_0 C dL_law_955 ?_
  refine xiload_5 C dL_law_956 ?_
  refine xiconst C (nI 1) dL_law_958 (by decide) ?_
  refine xiadd C dL_law_959 ?_
  rw [nI_add]
  refine xsld C hX hbl hbA (i + 1) dL_law_960 rfl (by omega) hL ?_
  refine lwmi C m_X6_kind k_L_157 (g_kind l G tc aX T tm (xs (i + 1))) dL_law_961 rfl (by decide) rfl (Nat.le_of_ble_eq_true rfl) ⟨by omega, by omega⟩ ?_
  refine xistore_7 C dL_law_964 rfl (by decide) ?_
  refine xaload_2 C dL_law_966 ?_
  refine lwmi C m_X6_thrown k_L_97 (g_thrown l G tc aX (pAskI (xs (i + 1)) T)) dL_law_967 rfl (by decide) rfl (Nat.le_of_ble_eq_true rfl) ⟨by omega, by omega⟩ ?_
  refine xiload_6 C dL_law_970 ?_
  refine xicmp_eq C (tgt := 977) dL_law_972 (by decide) (fun hq => ?_) (fun hq => absurd hth hq)
  refine xiload_6 C dL_law_977 ?_
  have kend : xAT p l e R s m args below meth c Q G A 9 (cells + 2) (slots + 6 * 2) (lwW tc qo qd a0 u aX (if thr = none then vp_updL o 0 ((iK (sI S) (xs (i + 1)).toNatClampNeg).toInt64) else o) (od) (if thr = none then S else S) (pAskI (xs (i + 1)) T)) [some (.ref b), some (.ref a0), some (.ref (aX 0)), some (.ref qo), some (.ref qd), some (.int (nI i)), some (.int (cd2 xIS thr)), some (.int (if askT (iR (zI T)) (xs (i + 1)) (nI (iM (zI T))) = 0 then iK (zI T) (xs (i + 1)).toNatClampNeg else 0)), none] 994 [] := by
    refine xgoto C (tgt := 1624) dL_law_994 (by decide) ?_
    exact xfg_6 (xfg_7 kk)
  refine xif_ne C (tgt := 994) dL_law_979 (by decide) (fun hq => kend) (fun hq => ?_)
  have hN := cd2_0 hq
  have hv := hval hN
  have hO : (if thr = none then vp_updL o 0 ((iK (sI S) (xs (i + 1)).toNatClampNeg).toInt64) else o) 0 = (if askT (iR (zI T)) (xs (i + 1)) (nI (iM (zI T))) = 0 then iK (zI T) (xs (i + 1)).toNatClampNeg else 0).toInt64 := by rw [if_pos hN, ← hv]; rfl
  refine xaload_3 C dL_law_982 ?_
  refine xiconst C (nI 0) dL_law_983 (by decide) ?_
  refine xlaldN C 0 0 dL_law_984 rfl (by decide) rfl (by decide) ?_
  refine xiload_7 C dL_law_985 ?_
  refine xi2l C dL_law_987 ?_
  refine xlcmp C dL_law_988 ?_
  refine xif_eq C (tgt := 994) dL_law_989 (by decide) (fun hz => kend) (fun hz => absurd (by rw [hO]; exact lg_cmp_self _) hz)
set_option maxHeartbeats 4000000 in
set_option maxRecDepth 100000 in
theorem q_start (hl9 : l.stackTraces = false) (C : CX p R s m args meth c cL_law 9 RL (some .boolean) G tc A 60) {b L : Nat} {xs : Nat → Int32} (hX : va_X b L xs s s.heap) (hbl : b < s.heap.size) (hbA : ¬ A b) (hL : L < 2 ^ 31) (qo qd a0 : Nat) (u : Nat → Nat → Nat) (aX : Nat → Nat) (o : Nat → Int64) (od : Nat → UInt64) (S : CS) (T : RS) (i : Nat) (hi : i + 5 ≤ L) (hR : cells + 3 ≤ R.cells ∧ slots + 18 ≤ R.slots) (hm : iM (sI S) ≤ 48) (tm : iM (zI T) ≤ 48) (thr : Option String) (hthr : ((thI (iR (sI S)) (iM (sI S)) (xs (i + 1)))) = thr) (hth : zT (pAskI_start (xs (i + 1)) T) = cd2 xIS thr) (hval : thr = none → (iA (sI S) (xs (i + 1)).toNatClampNeg).toInt64 = (if askT (iR (zI T)) (xs (i + 1)) (nI (iM (zI T))) = 0 then iA (zI T) (xs (i + 1)).toNatClampNeg else 0).toInt64) (kk : xAT p l e R s m args below meth c Q G A 9 (cells + 2) (slots + 6 * 2) (lwW tc qo qd a0 u aX (if thr = none then vp_updL o 0 ((iA (sI S) (xs (i + 1)).toNatClampNeg).toInt64) else o) (od) (if thr = none then S else S) (pAskI_start (xs (i + 1)) T)) [some (.ref b), some (.ref a0), some (.ref (aX 0)), some (.ref qo), some (.ref qd), some (.int (nI i)), none, none, none] 1624 []) : xAT p l e R s m args below meth c Q G A 9 (cells) (slots) (lwW tc qo qd a0 u aX (o) (od) (S) (T)) [some (.ref b), some (.ref a0), some (.ref (aX 0)), some (.ref qo), some (.ref qd), some (.int (nI i)), none, none, none] 997 [] := by
  have hR1 := hR.1
  have hR2 := hR.2
  refine xaload_1 C dL_law_997 ?_
  refine xaload_0 C dL_law_998 ?_
  refine xiload_5 C dL_law_999 ?_
  refine xiconst C (nI 1) dL_law_1001 (by decide) ?_
  refine xiadd C dL_law_1002 ?_
  rw [nI_add]
  refine xsld C hX hbl hbA (i + 1) dL_law_1003 rfl (by omega) hL ?_
  refine xaload_3 C dL_law_1004 ?_
  refine lwh C mh_start k_L_158 (h_start l hl9 G tc a0 u S hm (xs (i + 1)) qo o thr hthr) dL_law_1005 rfl (by decide) rfl (Nat.le_of_ble_eq_true rfl) ⟨by omega, by omega⟩ ?_
  refine xistore_6 C dL_law_1008 rfl (by decide) ?_
  refine xaload_2 C dL_law_1010 ?_
  refine xaload_0 C dL_law_1011 ?_
  refine xiload_5 C dL_law_1012 ?_
  refine xiconst C (nI 1) dL_law_1014 (by decide) ?_
  refine xiadd C dL_law_1015 ?_
  rw [nI_add]
  refine xsld C hX hbl hbA (i + 1) dL_law_1016 rfl (by omega) hL ?_
  refine lwmi C m_X6_start k_L_160 (g_start l G tc aX T tm (xs (i + 1))) dL_law_1017 rfl (by decide) rfl (Nat.le_of_ble_eq_true rfl) ⟨by omega, by omega⟩ ?_
  refine xistore_7 C dL_law_1020 rfl (by decide) ?_
  refine xaload_2 C dL_law_1022 ?_
  refine lwmi C m_X6_thrown k_L_97 (g_thrown l G tc aX (pAskI_start (xs (i + 1)) T)) dL_law_1023 rfl (by decide) rfl (Nat.le_of_ble_eq_true rfl) ⟨by omega, by omega⟩ ?_
  refine xiload_6 C dL_law_1026 ?_
  refine xicmp_eq C (tgt := 1033) dL_law_1028 (by decide) (fun hq => ?_) (fun hq => absurd hth hq)
  refine xiload_6 C dL_law_1033 ?_
  have kend : xAT p l e R s m args below meth c Q G A 9 (cells + 2) (slots + 6 * 2) (lwW tc qo qd a0 u aX (if thr = none then vp_updL o 0 ((iA (sI S) (xs (i + 1)).toNatClampNeg).toInt64) else o) (od) (if thr = none then S else S) (pAskI_start (xs (i + 1)) T)) [some (.ref b), some (.ref a0), some (.ref (aX 0)), some (.ref qo), some (.ref qd), some (.int (nI i)), some (.int (cd2 xIS thr)), some (.int (if askT (iR (zI T)) (xs (i + 1)) (nI (iM (zI T))) = 0 then iA (zI T) (xs (i + 1)).toNatClampNeg else 0)), none] 1050 [] := by
    refine xgoto C (tgt := 1624) dL_law_1050 (by decide) ?_
    exact xfg_6 (xfg_7 kk)
  refine xif_ne C (tgt := 1050) dL_law_1035 (by decide) (fun hq => kend) (fun hq => ?_)
  have hN := cd2_0 hq
  have hv := hval hN
  have hO : (if thr = none then vp_updL o 0 ((iA (sI S) (xs (i + 1)).toNatClampNeg).toInt64) else o) 0 = (if askT (iR (zI T)) (xs (i + 1)) (nI (iM (zI T))) = 0 then iA (zI T) (xs (i + 1)).toNatClampNeg else 0).toInt64 := by rw [if_pos hN, ← hv]; rfl
  refine xaload_3 C dL_law_1038 ?_
  refine xiconst C (nI 0) dL_law_1039 (by decide) ?_
  refine xlaldN C 0 0 dL_law_1040 rfl (by decide) rfl (by decide) ?_
  refine xiload_7 C dL_law_1041 ?_
  refine xi2l C dL_law_1043 ?_
  refine xlcmp C dL_law_1044 ?_
  refine xif_eq C (tgt := 1050) dL_law_1045 (by decide) (fun hz => kend) (fun hz => absurd (by rw [hO]; exact lg_cmp_self _) hz)
set_option maxHeartbeats 4000000 in
set_option maxRecDepth 100000 in
theorem q_end (hl9 : l.stackTraces = false) (C : CX p R s m args meth c cL_law 9 RL (some .boolean) G tc A 60) {b L : Nat} {xs : Nat → Int32} (hX : va_X b L xs s s.heap) (hbl : b < s.heap.size) (hbA : ¬ A b) (hL : L < 2 ^ 31) (qo qd a0 : Nat) (u : Nat → Nat → Nat) (aX : Nat → Nat) (o : Nat → Int64) (od : Nat → UInt64) (S : CS) (T : RS) (i : Nat) (hi : i + 5 ≤ L) (hR : cells + 3 ≤ R.cells ∧ slots + 18 ≤ R.slots) (hm : iM (sI S) ≤ 48) (tm : iM (zI T) ≤ 48) (thr : Option String) (hthr : ((thI (iR (sI S)) (iM (sI S)) (xs (i + 1)))) = thr) (hth : zT (pAskI_end (xs (i + 1)) T) = cd2 xIS thr) (hval : thr = none → (iE (sI S) (xs (i + 1)).toNatClampNeg).toInt64 = (if askT (iR (zI T)) (xs (i + 1)) (nI (iM (zI T))) = 0 then iE (zI T) (xs (i + 1)).toNatClampNeg else 0).toInt64) (kk : xAT p l e R s m args below meth c Q G A 9 (cells + 2) (slots + 6 * 2) (lwW tc qo qd a0 u aX (if thr = none then vp_updL o 0 ((iE (sI S) (xs (i + 1)).toNatClampNeg).toInt64) else o) (od) (if thr = none then S else S) (pAskI_end (xs (i + 1)) T)) [some (.ref b), some (.ref a0), some (.ref (aX 0)), some (.ref qo), some (.ref qd), some (.int (nI i)), none, none, none] 1624 []) : xAT p l e R s m args below meth c Q G A 9 (cells) (slots) (lwW tc qo qd a0 u aX (o) (od) (S) (T)) [some (.ref b), some (.ref a0), some (.ref (aX 0)), some (.ref qo), some (.ref qd), some (.int (nI i)), none, none, none] 1053 [] := by
  have hR1 := hR.1
  have hR2 := hR.2
  refine xaload_1 C dL_law_1053 ?_
  refine xaload_0 C dL_law_1054 ?_
  refine xiload_5 C dL_law_1055 ?_
  refine xiconst C (nI 1) dL_law_1057 (by decide) ?_
  refine xiadd C dL_law_1058 ?_
  rw [nI_add]
  refine xsld C hX hbl hbA (i + 1) dL_law_1059 rfl (by omega) hL ?_
  refine xaload_3 C dL_law_1060 ?_
  refine lwh C mh_end k_L_161 (h_end l hl9 G tc a0 u S hm (xs (i + 1)) qo o thr hthr) dL_law_1061 rfl (by decide) rfl (Nat.le_of_ble_eq_true rfl) ⟨by omega, by omega⟩ ?_
  refine xistore_6 C dL_law_1064 rfl (by decide) ?_
  refine xaload_2 C dL_law_1066 ?_
  refine xaload_0 C dL_law_1067 ?_
  refine xiload_5 C dL_law_1068 ?_
  refine xiconst C (nI 1) dL_law_1070 (by decide) ?_
  refine xiadd C dL_law_1071 ?_
  rw [nI_add]
  refine xsld C hX hbl hbA (i + 1) dL_law_1072 rfl (by omega) hL ?_
  refine lwmi C m_X6_end k_L_163 (g_end l G tc aX T tm (xs (i + 1))) dL_law_1073 rfl (by decide) rfl (Nat.le_of_ble_eq_true rfl) ⟨by omega, by omega⟩ ?_
  refine xistore_7 C dL_law_1076 rfl (by decide) ?_
  refine xaload_2 C dL_law_1078 ?_
  refine lwmi C m_X6_thrown k_L_97 (g_thrown l G tc aX (pAskI_end (xs (i + 1)) T)) dL_law_1079 rfl (by decide) rfl (Nat.le_of_ble_eq_true rfl) ⟨by omega, by omega⟩ ?_
  refine xiload_6 C dL_law_1082 ?_
  refine xicmp_eq C (tgt := 1089) dL_law_1084 (by decide) (fun hq => ?_) (fun hq => absurd hth hq)
  refine xiload_6 C dL_law_1089 ?_
  have kend : xAT p l e R s m args below meth c Q G A 9 (cells + 2) (slots + 6 * 2) (lwW tc qo qd a0 u aX (if thr = none then vp_updL o 0 ((iE (sI S) (xs (i + 1)).toNatClampNeg).toInt64) else o) (od) (if thr = none then S else S) (pAskI_end (xs (i + 1)) T)) [some (.ref b), some (.ref a0), some (.ref (aX 0)), some (.ref qo), some (.ref qd), some (.int (nI i)), some (.int (cd2 xIS thr)), some (.int (if askT (iR (zI T)) (xs (i + 1)) (nI (iM (zI T))) = 0 then iE (zI T) (xs (i + 1)).toNatClampNeg else 0)), none] 1106 [] := by
    refine xgoto C (tgt := 1624) dL_law_1106 (by decide) ?_
    exact xfg_6 (xfg_7 kk)
  refine xif_ne C (tgt := 1106) dL_law_1091 (by decide) (fun hq => kend) (fun hq => ?_)
  have hN := cd2_0 hq
  have hv := hval hN
  have hO : (if thr = none then vp_updL o 0 ((iE (sI S) (xs (i + 1)).toNatClampNeg).toInt64) else o) 0 = (if askT (iR (zI T)) (xs (i + 1)) (nI (iM (zI T))) = 0 then iE (zI T) (xs (i + 1)).toNatClampNeg else 0).toInt64 := by rw [if_pos hN, ← hv]; rfl
  refine xaload_3 C dL_law_1094 ?_
  refine xiconst C (nI 0) dL_law_1095 (by decide) ?_
  refine xlaldN C 0 0 dL_law_1096 rfl (by decide) rfl (by decide) ?_
  refine xiload_7 C dL_law_1097 ?_
  refine xi2l C dL_law_1099 ?_
  refine xlcmp C dL_law_1100 ?_
  refine xif_eq C (tgt := 1106) dL_law_1101 (by decide) (fun hz => kend) (fun hz => absurd (by rw [hO]; exact lg_cmp_self _) hz)
set_option maxHeartbeats 4000000 in
set_option maxRecDepth 100000 in
theorem q_state (hl9 : l.stackTraces = false) (C : CX p R s m args meth c cL_law 9 RL (some .boolean) G tc A 60) {b L : Nat} {xs : Nat → Int32} (hX : va_X b L xs s s.heap) (hbl : b < s.heap.size) (hbA : ¬ A b) (hL : L < 2 ^ 31) (qo qd a0 : Nat) (u : Nat → Nat → Nat) (aX : Nat → Nat) (o : Nat → Int64) (od : Nat → UInt64) (S : CS) (T : RS) (i : Nat) (hi : i + 5 ≤ L) (hR : cells + 3 ≤ R.cells ∧ slots + 18 ≤ R.slots) (hm : iM (sI S) ≤ 48) (tm : iM (zI T) ≤ 48) (thr : Option String) (hthr : ((thI (iR (sI S)) (iM (sI S)) (xs (i + 1)))) = thr) (hth : zT (pAskI_state (xs (i + 1)) T) = cd2 xIS thr) (hval : thr = none → (iT (sI S) (xs (i + 1)).toNatClampNeg).toInt64 = (if askT (iR (zI T)) (xs (i + 1)) (nI (iM (zI T))) = 0 then iT (zI T) (xs (i + 1)).toNatClampNeg else 0).toInt64) (kk : xAT p l e R s m args below meth c Q G A 9 (cells + 2) (slots + 6 * 2) (lwW tc qo qd a0 u aX (if thr = none then vp_updL o 0 ((iT (sI S) (xs (i + 1)).toNatClampNeg).toInt64) else o) (od) (if thr = none then S else S) (pAskI_state (xs (i + 1)) T)) [some (.ref b), some (.ref a0), some (.ref (aX 0)), some (.ref qo), some (.ref qd), some (.int (nI i)), none, none, none] 1624 []) : xAT p l e R s m args below meth c Q G A 9 (cells) (slots) (lwW tc qo qd a0 u aX (o) (od) (S) (T)) [some (.ref b), some (.ref a0), some (.ref (aX 0)), some (.ref qo), some (.ref qd), some (.int (nI i)), none, none, none] 1109 [] := by
  have hR1 := hR.1
  have hR2 := hR.2
  refine xaload_1 C dL_law_1109 ?_
  refine xaload_0 C dL_law_1110 ?_
  refine xiload_5 C dL_law_1111 ?_
  refine xiconst C (nI 1) dL_law_1113 (by decide) ?_
  refine xiadd C dL_law_1114 ?_
  rw [nI_add]
  refine xsld C hX hbl hbA (i + 1) dL_law_1115 rfl (by omega) hL ?_
  refine xaload_3 C dL_law_1116 ?_
  refine lwh C mh_state k_L_164 (h_state l hl9 G tc a0 u S hm (xs (i + 1)) qo o thr hthr) dL_law_1117 rfl (by decide) rfl (Nat.le_of_ble_eq_true rfl) ⟨by omega, by omega⟩ ?_
  refine xistore_6 C dL_law_1120 rfl (by decide) ?_
  refine xaload_2 C dL_law_1122 ?_
  refine xaload_0 C dL_law_1123 ?_
  refine xiload_5 C dL_law_1124 ?_
  refine xiconst C (nI 1) dL_law_1126 (by decide) ?_
  refine xiadd C dL_law_1127 ?_
  rw [nI_add]
  refine xsld C hX hbl hbA (i + 1) dL_law_1128 rfl (by omega) hL ?_
  refine lwmi C m_X6_state k_L_166 (g_state l G tc aX T tm (xs (i + 1))) dL_law_1129 rfl (by decide) rfl (Nat.le_of_ble_eq_true rfl) ⟨by omega, by omega⟩ ?_
  refine xistore_7 C dL_law_1132 rfl (by decide) ?_
  refine xaload_2 C dL_law_1134 ?_
  refine lwmi C m_X6_thrown k_L_97 (g_thrown l G tc aX (pAskI_state (xs (i + 1)) T)) dL_law_1135 rfl (by decide) rfl (Nat.le_of_ble_eq_true rfl) ⟨by omega, by omega⟩ ?_
  refine xiload_6 C dL_law_1138 ?_
  refine xicmp_eq C (tgt := 1145) dL_law_1140 (by decide) (fun hq => ?_) (fun hq => absurd hth hq)
  refine xiload_6 C dL_law_1145 ?_
  have kend : xAT p l e R s m args below meth c Q G A 9 (cells + 2) (slots + 6 * 2) (lwW tc qo qd a0 u aX (if thr = none then vp_updL o 0 ((iT (sI S) (xs (i + 1)).toNatClampNeg).toInt64) else o) (od) (if thr = none then S else S) (pAskI_state (xs (i + 1)) T)) [some (.ref b), some (.ref a0), some (.ref (aX 0)), some (.ref qo), some (.ref qd), some (.int (nI i)), some (.int (cd2 xIS thr)), some (.int (if askT (iR (zI T)) (xs (i + 1)) (nI (iM (zI T))) = 0 then iT (zI T) (xs (i + 1)).toNatClampNeg else 0)), none] 1162 [] := by
    refine xgoto C (tgt := 1624) dL_law_1162 (by decide) ?_
    exact xfg_6 (xfg_7 kk)
  refine xif_ne C (tgt := 1162) dL_law_1147 (by decide) (fun hq => kend) (fun hq => ?_)
  have hN := cd2_0 hq
  have hv := hval hN
  have hO : (if thr = none then vp_updL o 0 ((iT (sI S) (xs (i + 1)).toNatClampNeg).toInt64) else o) 0 = (if askT (iR (zI T)) (xs (i + 1)) (nI (iM (zI T))) = 0 then iT (zI T) (xs (i + 1)).toNatClampNeg else 0).toInt64 := by rw [if_pos hN, ← hv]; rfl
  refine xaload_3 C dL_law_1150 ?_
  refine xiconst C (nI 0) dL_law_1151 (by decide) ?_
  refine xlaldN C 0 0 dL_law_1152 rfl (by decide) rfl (by decide) ?_
  refine xiload_7 C dL_law_1153 ?_
  refine xi2l C dL_law_1155 ?_
  refine xlcmp C dL_law_1156 ?_
  refine xif_eq C (tgt := 1162) dL_law_1157 (by decide) (fun hz => kend) (fun hz => absurd (by rw [hO]; exact lg_cmp_self _) hz)
set_option maxHeartbeats 4000000 in
set_option maxRecDepth 100000 in
theorem q_parent (hl9 : l.stackTraces = false) (C : CX p R s m args meth c cL_law 9 RL (some .boolean) G tc A 60) {b L : Nat} {xs : Nat → Int32} (hX : va_X b L xs s s.heap) (hbl : b < s.heap.size) (hbA : ¬ A b) (hL : L < 2 ^ 31) (qo qd a0 : Nat) (u : Nat → Nat → Nat) (aX : Nat → Nat) (o : Nat → Int64) (od : Nat → UInt64) (S : CS) (T : RS) (i : Nat) (hi : i + 5 ≤ L) (hR : cells + 3 ≤ R.cells ∧ slots + 18 ≤ R.slots) (hm : iM (sI S) ≤ 48) (tm : iM (zI T) ≤ 48) (thr : Option String) (hthr : ((thI (iR (sI S)) (iM (sI S)) (xs (i + 1)))) = thr) (hth : zT (pAskI_parent (xs (i + 1)) T) = cd2 xIS thr) (hval : thr = none → (iP (sI S) (xs (i + 1)).toNatClampNeg).toInt64 = (if askT (iR (zI T)) (xs (i + 1)) (nI (iM (zI T))) = 0 then iP (zI T) (xs (i + 1)).toNatClampNeg else 0).toInt64) (kk : xAT p l e R s m args below meth c Q G A 9 (cells + 2) (slots + 6 * 2) (lwW tc qo qd a0 u aX (if thr = none then vp_updL o 0 ((iP (sI S) (xs (i + 1)).toNatClampNeg).toInt64) else o) (od) (if thr = none then S else S) (pAskI_parent (xs (i + 1)) T)) [some (.ref b), some (.ref a0), some (.ref (aX 0)), some (.ref qo), some (.ref qd), some (.int (nI i)), none, none, none] 1624 []) : xAT p l e R s m args below meth c Q G A 9 (cells) (slots) (lwW tc qo qd a0 u aX (o) (od) (S) (T)) [some (.ref b), some (.ref a0), some (.ref (aX 0)), some (.ref qo), some (.ref qd), some (.int (nI i)), none, none, none] 1165 [] := by
  have hR1 := hR.1
  have hR2 := hR.2
  refine xaload_1 C dL_law_1165 ?_
  refine xaload_0 C dL_law_1166 ?_
  refine xiload_5 C dL_law_1167 ?_
  refine xiconst C (nI 1) dL_law_1169 (by decide) ?_
  refine xiadd C dL_law_1170 ?_
  rw [nI_add]
  refine xsld C hX hbl hbA (i + 1) dL_law_1171 rfl (by omega) hL ?_
  refine xaload_3 C dL_law_1172 ?_
  refine lwh C mh_parent k_L_167 (h_parent l hl9 G tc a0 u S hm (xs (i + 1)) qo o thr hthr) dL_law_1173 rfl (by decide) rfl (Nat.le_of_ble_eq_true rfl) ⟨by omega, by omega⟩ ?_
  refine xistore_6 C dL_law_1176 rfl (by decide) ?_
  refine xaload_2 C dL_law_1178 ?_
  refine xaload_0 C dL_law_1179 ?_
  refine xiload_5 C dL_law_1180 ?_
  refine xiconst C (nI 1) dL_law_1182 (by decide) ?_
  refine xiadd C dL_law_1183 ?_
  rw [nI_add]
  refine xsld C hX hbl hbA (i + 1) dL_law_1184 rfl (by omega) hL ?_
  refine lwmi C m_X6_parent k_L_169 (g_parent l G tc aX T tm (xs (i + 1))) dL_law_1185 rfl (by decide) rfl (Nat.le_of_ble_eq_true rfl) ⟨by omega, by omega⟩ ?_
  refine xistore_7 C dL_law_1188 rfl (by decide) ?_
  refine xaload_2 C dL_law_1190 ?_
  refine lwmi C m_X6_thrown k_L_97 (g_thrown l G tc aX (pAskI_parent (xs (i + 1)) T)) dL_law_1191 rfl (by decide) rfl (Nat.le_of_ble_eq_true rfl) ⟨by omega, by omega⟩ ?_
  refine xiload_6 C dL_law_1194 ?_
  refine xicmp_eq C (tgt := 1201) dL_law_1196 (by decide) (fun hq => ?_) (fun hq => absurd hth hq)
  refine xiload_6 C dL_law_1201 ?_
  have kend : xAT p l e R s m args below meth c Q G A 9 (cells + 2) (slots + 6 * 2) (lwW tc qo qd a0 u aX (if thr = none then vp_updL o 0 ((iP (sI S) (xs (i + 1)).toNatClampNeg).toInt64) else o) (od) (if thr = none then S else S) (pAskI_parent (xs (i + 1)) T)) [some (.ref b), some (.ref a0), some (.ref (aX 0)), some (.ref qo), some (.ref qd), some (.int (nI i)), some (.int (cd2 xIS thr)), some (.int (if askT (iR (zI T)) (xs (i + 1)) (nI (iM (zI T))) = 0 then iP (zI T) (xs (i + 1)).toNatClampNeg else 0)), none] 1218 [] := by
    refine xgoto C (tgt := 1624) dL_law_1218 (by decide) ?_
    exact xfg_6 (xfg_7 kk)
  refine xif_ne C (tgt := 1218) dL_law_1203 (by decide) (fun hq => kend) (fun hq => ?_)
  have hN := cd2_0 hq
  have hv := hval hN
  have hO : (if thr = none then vp_updL o 0 ((iP (sI S) (xs (i + 1)).toNatClampNeg).toInt64) else o) 0 = (if askT (iR (zI T)) (xs (i + 1)) (nI (iM (zI T))) = 0 then iP (zI T) (xs (i + 1)).toNatClampNeg else 0).toInt64 := by rw [if_pos hN, ← hv]; rfl
  refine xaload_3 C dL_law_1206 ?_
  refine xiconst C (nI 0) dL_law_1207 (by decide) ?_
  refine xlaldN C 0 0 dL_law_1208 rfl (by decide) rfl (by decide) ?_
  refine xiload_7 C dL_law_1209 ?_
  refine xi2l C dL_law_1211 ?_
  refine xlcmp C dL_law_1212 ?_
  refine xif_eq C (tgt := 1218) dL_law_1213 (by decide) (fun hz => kend) (fun hz => absurd (by rw [hO]; exact lg_cmp_self _) hz)
set_option maxHeartbeats 4000000 in
set_option maxRecDepth 100000 in
theorem q_own (hl9 : l.stackTraces = false) (C : CX p R s m args meth c cL_law 9 RL (some .boolean) G tc A 60) {b L : Nat} {xs : Nat → Int32} (hX : va_X b L xs s s.heap) (hbl : b < s.heap.size) (hbA : ¬ A b) (hL : L < 2 ^ 31) (qo qd a0 : Nat) (u : Nat → Nat → Nat) (aX : Nat → Nat) (o : Nat → Int64) (od : Nat → UInt64) (S : CS) (T : RS) (i : Nat) (hi : i + 5 ≤ L) (hR : cells + 3 ≤ R.cells ∧ slots + 18 ≤ R.slots) (hm : iM (sI S) ≤ 48) (tm : iM (zI T) ≤ 48) (thr : Option String) (hthr : ((thI (iR (sI S)) (iM (sI S)) (xs (i + 1)))) = thr) (hth : zT (pAskI_own (xs (i + 1)) T) = cd2 xIS thr) (hval : thr = none → (iE (sI S) (xs (i + 1)).toNatClampNeg - iA (sI S) (xs (i + 1)).toNatClampNeg - bocG (iP (sI S)) (iE (sI S)) (iA (sI S)) (xs (i + 1)) (iM (sI S)) 0 0).toInt64 = (if askT (iR (zI T)) (xs (i + 1)) (nI (iM (zI T))) = 0 then owG (iP (zI T)) (iE (zI T)) (iA (zI T)) (xs (i + 1)) (iM (zI T)) 0 (iE (zI T) (xs (i + 1)).toNatClampNeg - iA (zI T) (xs (i + 1)).toNatClampNeg) else 0).toInt64) (kk : xAT p l e R s m args below meth c Q G A 9 (cells + 2) (slots + 6 * 2) (lwW tc qo qd a0 u aX (if thr = none then vp_updL o 0 ((iE (sI S) (xs (i + 1)).toNatClampNeg - iA (sI S) (xs (i + 1)).toNatClampNeg - bocG (iP (sI S)) (iE (sI S)) (iA (sI S)) (xs (i + 1)) (iM (sI S)) 0 0).toInt64) else o) (od) (if thr = none then S else S) (pAskI_own (xs (i + 1)) T)) [some (.ref b), some (.ref a0), some (.ref (aX 0)), some (.ref qo), some (.ref qd), some (.int (nI i)), none, none, none] 1624 []) : xAT p l e R s m args below meth c Q G A 9 (cells) (slots) (lwW tc qo qd a0 u aX (o) (od) (S) (T)) [some (.ref b), some (.ref a0), some (.ref (aX 0)), some (.ref qo), some (.ref qd), some (.int (nI i)), none, none, none] 1277 [] := by
  have hR1 := hR.1
  have hR2 := hR.2
  refine xaload_1 C dL_law_1277 ?_
  refine xaload_0 C dL_law_1278 ?_
  refine xiload_5 C dL_law_1279 ?_
  refine xiconst C (nI 1) dL_law_1281 (by decide) ?_
  refine xiadd C dL_law_1282 ?_
  rw [nI_add]
  refine xsld C hX hbl hbA (i + 1) dL_law_1283 rfl (by omega) hL ?_
  refine xaload_3 C dL_law_1284 ?_
  refine lwh C mh_own k_L_173 (h_own l hl9 G tc a0 u S hm (xs (i + 1)) qo o thr hthr) dL_law_1285 rfl (by decide) rfl (Nat.le_of_ble_eq_true rfl) ⟨by omega, by omega⟩ ?_
  refine xistore_6 C dL_law_1288 rfl (by decide) ?_
  refine xaload_2 C dL_law_1290 ?_
  refine xaload_0 C dL_law_1291 ?_
  refine xiload_5 C dL_law_1292 ?_
  refine xiconst C (nI 1) dL_law_1294 (by decide) ?_
  refine xiadd C dL_law_1295 ?_
  rw [nI_add]
  refine xsld C hX hbl hbA (i + 1) dL_law_1296 rfl (by omega) hL ?_
  refine lwmi C m_X6_own k_L_175 (g_own l G tc aX T tm (xs (i + 1))) dL_law_1297 rfl (by decide) rfl (Nat.le_of_ble_eq_true rfl) ⟨by omega, by omega⟩ ?_
  refine xistore_7 C dL_law_1300 rfl (by decide) ?_
  refine xaload_2 C dL_law_1302 ?_
  refine lwmi C m_X6_thrown k_L_97 (g_thrown l G tc aX (pAskI_own (xs (i + 1)) T)) dL_law_1303 rfl (by decide) rfl (Nat.le_of_ble_eq_true rfl) ⟨by omega, by omega⟩ ?_
  refine xiload_6 C dL_law_1306 ?_
  refine xicmp_eq C (tgt := 1313) dL_law_1308 (by decide) (fun hq => ?_) (fun hq => absurd hth hq)
  refine xiload_6 C dL_law_1313 ?_
  have kend : xAT p l e R s m args below meth c Q G A 9 (cells + 2) (slots + 6 * 2) (lwW tc qo qd a0 u aX (if thr = none then vp_updL o 0 ((iE (sI S) (xs (i + 1)).toNatClampNeg - iA (sI S) (xs (i + 1)).toNatClampNeg - bocG (iP (sI S)) (iE (sI S)) (iA (sI S)) (xs (i + 1)) (iM (sI S)) 0 0).toInt64) else o) (od) (if thr = none then S else S) (pAskI_own (xs (i + 1)) T)) [some (.ref b), some (.ref a0), some (.ref (aX 0)), some (.ref qo), some (.ref qd), some (.int (nI i)), some (.int (cd2 xIS thr)), some (.int (if askT (iR (zI T)) (xs (i + 1)) (nI (iM (zI T))) = 0 then owG (iP (zI T)) (iE (zI T)) (iA (zI T)) (xs (i + 1)) (iM (zI T)) 0 (iE (zI T) (xs (i + 1)).toNatClampNeg - iA (zI T) (xs (i + 1)).toNatClampNeg) else 0)), none] 1330 [] := by
    refine xgoto C (tgt := 1624) dL_law_1330 (by decide) ?_
    exact xfg_6 (xfg_7 kk)
  refine xif_ne C (tgt := 1330) dL_law_1315 (by decide) (fun hq => kend) (fun hq => ?_)
  have hN := cd2_0 hq
  have hv := hval hN
  have hO : (if thr = none then vp_updL o 0 ((iE (sI S) (xs (i + 1)).toNatClampNeg - iA (sI S) (xs (i + 1)).toNatClampNeg - bocG (iP (sI S)) (iE (sI S)) (iA (sI S)) (xs (i + 1)) (iM (sI S)) 0 0).toInt64) else o) 0 = (if askT (iR (zI T)) (xs (i + 1)) (nI (iM (zI T))) = 0 then owG (iP (zI T)) (iE (zI T)) (iA (zI T)) (xs (i + 1)) (iM (zI T)) 0 (iE (zI T) (xs (i + 1)).toNatClampNeg - iA (zI T) (xs (i + 1)).toNatClampNeg) else 0).toInt64 := by rw [if_pos hN, ← hv]; rfl
  refine xaload_3 C dL_law_1318 ?_
  refine xiconst C (nI 0) dL_law_1319 (by decide) ?_
  refine xlaldN C 0 0 dL_law_1320 rfl (by decide) rfl (by decide) ?_
  refine xiload_7 C dL_law_1321 ?_
  refine xi2l C dL_law_1323 ?_
  refine xlcmp C dL_law_1324 ?_
  refine xif_eq C (tgt := 1330) dL_law_1325 (by decide) (fun hz => kend) (fun hz => absurd (by rw [hO]; exact lg_cmp_self _) hz)
set_option maxHeartbeats 4000000 in
set_option maxRecDepth 100000 in
theorem q_depth (hl9 : l.stackTraces = false) (C : CX p R s m args meth c cL_law 9 RL (some .boolean) G tc A 60) {b L : Nat} {xs : Nat → Int32} (hX : va_X b L xs s s.heap) (hbl : b < s.heap.size) (hbA : ¬ A b) (hL : L < 2 ^ 31) (qo qd a0 : Nat) (u : Nat → Nat → Nat) (aX : Nat → Nat) (o : Nat → Int64) (od : Nat → UInt64) (S : CS) (T : RS) (i : Nat) (hi : i + 5 ≤ L) (hR : cells + 3 ≤ R.cells ∧ slots + 18 ≤ R.slots) (hm : iM (sI S) ≤ 48) (tm : iM (zI T) ≤ 48) (tp : pOk (iP (zI T)) (iM (zI T))) (thr : Option String) (hthr : ((thI (iR (sI S)) (iM (sI S)) (xs (i + 1)))) = thr) (hth : zT (pAskI_depth (xs (i + 1)) T) = cd2 xIS thr) (hval : thr = none → (iD (sI S) (xs (i + 1)).toNatClampNeg).toInt64 = (if askT (iR (zI T)) (xs (i + 1)) (nI (iM (zI T))) = 0 then nI (dpG (iP (zI T)) (iM (zI T)) (iP (zI T) (xs (i + 1)).toNatClampNeg)) else 0).toInt64) (kk : xAT p l e R s m args below meth c Q G A 9 (cells + 2) (slots + 6 * 2) (lwW tc qo qd a0 u aX (if thr = none then vp_updL o 0 ((iD (sI S) (xs (i + 1)).toNatClampNeg).toInt64) else o) (od) (if thr = none then S else S) (pAskI_depth (xs (i + 1)) T)) [some (.ref b), some (.ref a0), some (.ref (aX 0)), some (.ref qo), some (.ref qd), some (.int (nI i)), none, none, none] 1624 []) : xAT p l e R s m args below meth c Q G A 9 (cells) (slots) (lwW tc qo qd a0 u aX (o) (od) (S) (T)) [some (.ref b), some (.ref a0), some (.ref (aX 0)), some (.ref qo), some (.ref qd), some (.int (nI i)), none, none, none] 1221 [] := by
  have hR1 := hR.1
  have hR2 := hR.2
  refine xaload_1 C dL_law_1221 ?_
  refine xaload_0 C dL_law_1222 ?_
  refine xiload_5 C dL_law_1223 ?_
  refine xiconst C (nI 1) dL_law_1225 (by decide) ?_
  refine xiadd C dL_law_1226 ?_
  rw [nI_add]
  refine xsld C hX hbl hbA (i + 1) dL_law_1227 rfl (by omega) hL ?_
  refine xaload_3 C dL_law_1228 ?_
  refine lwh C mh_depth k_L_170 (h_depth l hl9 G tc a0 u S hm (xs (i + 1)) qo o thr hthr) dL_law_1229 rfl (by decide) rfl (Nat.le_of_ble_eq_true rfl) ⟨by omega, by omega⟩ ?_
  refine xistore_6 C dL_law_1232 rfl (by decide) ?_
  refine xaload_2 C dL_law_1234 ?_
  refine xaload_0 C dL_law_1235 ?_
  refine xiload_5 C dL_law_1236 ?_
  refine xiconst C (nI 1) dL_law_1238 (by decide) ?_
  refine xiadd C dL_law_1239 ?_
  rw [nI_add]
  refine xsld C hX hbl hbA (i + 1) dL_law_1240 rfl (by omega) hL ?_
  refine lwmi C m_X6_depth k_L_172 (g_depth l G tc aX T tm tp (xs (i + 1))) dL_law_1241 rfl (by decide) rfl (Nat.le_of_ble_eq_true rfl) ⟨by omega, by omega⟩ ?_
  refine xistore_7 C dL_law_1244 rfl (by decide) ?_
  refine xaload_2 C dL_law_1246 ?_
  refine lwmi C m_X6_thrown k_L_97 (g_thrown l G tc aX (pAskI_depth (xs (i + 1)) T)) dL_law_1247 rfl (by decide) rfl (Nat.le_of_ble_eq_true rfl) ⟨by omega, by omega⟩ ?_
  refine xiload_6 C dL_law_1250 ?_
  refine xicmp_eq C (tgt := 1257) dL_law_1252 (by decide) (fun hq => ?_) (fun hq => absurd hth hq)
  refine xiload_6 C dL_law_1257 ?_
  have kend : xAT p l e R s m args below meth c Q G A 9 (cells + 2) (slots + 6 * 2) (lwW tc qo qd a0 u aX (if thr = none then vp_updL o 0 ((iD (sI S) (xs (i + 1)).toNatClampNeg).toInt64) else o) (od) (if thr = none then S else S) (pAskI_depth (xs (i + 1)) T)) [some (.ref b), some (.ref a0), some (.ref (aX 0)), some (.ref qo), some (.ref qd), some (.int (nI i)), some (.int (cd2 xIS thr)), some (.int (if askT (iR (zI T)) (xs (i + 1)) (nI (iM (zI T))) = 0 then nI (dpG (iP (zI T)) (iM (zI T)) (iP (zI T) (xs (i + 1)).toNatClampNeg)) else 0)), none] 1274 [] := by
    refine xgoto C (tgt := 1624) dL_law_1274 (by decide) ?_
    exact xfg_6 (xfg_7 kk)
  refine xif_ne C (tgt := 1274) dL_law_1259 (by decide) (fun hq => kend) (fun hq => ?_)
  have hN := cd2_0 hq
  have hv := hval hN
  have hO : (if thr = none then vp_updL o 0 ((iD (sI S) (xs (i + 1)).toNatClampNeg).toInt64) else o) 0 = (if askT (iR (zI T)) (xs (i + 1)) (nI (iM (zI T))) = 0 then nI (dpG (iP (zI T)) (iM (zI T)) (iP (zI T) (xs (i + 1)).toNatClampNeg)) else 0).toInt64 := by rw [if_pos hN, ← hv]; rfl
  refine xaload_3 C dL_law_1262 ?_
  refine xiconst C (nI 0) dL_law_1263 (by decide) ?_
  refine xlaldN C 0 0 dL_law_1264 rfl (by decide) rfl (by decide) ?_
  refine xiload_7 C dL_law_1265 ?_
  refine xi2l C dL_law_1267 ?_
  refine xlcmp C dL_law_1268 ?_
  refine xif_eq C (tgt := 1274) dL_law_1269 (by decide) (fun hz => kend) (fun hz => absurd (by rw [hO]; exact lg_cmp_self _) hz)
set_option maxHeartbeats 4000000 in
set_option maxRecDepth 100000 in
theorem q_at (hl9 : l.stackTraces = false) (C : CX p R s m args meth c cL_law 9 RL (some .boolean) G tc A 60) {b L : Nat} {xs : Nat → Int32} (hX : va_X b L xs s s.heap) (hbl : b < s.heap.size) (hbA : ¬ A b) (hL : L < 2 ^ 31) (qo qd a0 : Nat) (u : Nat → Nat → Nat) (aX : Nat → Nat) (o : Nat → Int64) (od : Nat → UInt64) (S : CS) (T : RS) (i : Nat) (hi : i + 5 ≤ L) (hR : cells + 3 ≤ R.cells ∧ slots + 18 ≤ R.slots) (hm : iM (sI S) ≤ 48) (tm : iM (zI T) ≤ 48) (thr : Option String) (hthr : (((thR (iR (sI S))).or (thP (sN S) (xs (i + 1))))) = thr) (hth : zT (pAskA (xs (i + 1)) T) = cd2 xIS thr) (hval : thr = none → (iaG (iA (sI S)) (iE (sI S)) (xs (i + 1)) (iM (sI S))).toInt64 = (if askT (iR (zI T)) (xs (i + 1)) (nI (zN T)) = 0 then arV (zI T) (xs (i + 1)) else 0).toInt64) (kk : xAT p l e R s m args below meth c Q G A 9 (cells + 2) (slots + 6 * 2) (lwW tc qo qd a0 u aX (if thr = none then vp_updL o 0 ((iaG (iA (sI S)) (iE (sI S)) (xs (i + 1)) (iM (sI S))).toInt64) else o) (od) (if thr = none then S else S) (pAskA (xs (i + 1)) T)) [some (.ref b), some (.ref a0), some (.ref (aX 0)), some (.ref qo), some (.ref qd), some (.int (nI i)), none, none, none] 1624 []) : xAT p l e R s m args below meth c Q G A 9 (cells) (slots) (lwW tc qo qd a0 u aX (o) (od) (S) (T)) [some (.ref b), some (.ref a0), some (.ref (aX 0)), some (.ref qo), some (.ref qd), some (.int (nI i)), none, none, none] 1333 [] := by
  have hR1 := hR.1
  have hR2 := hR.2
  refine xaload_1 C dL_law_1333 ?_
  refine xaload_0 C dL_law_1334 ?_
  refine xiload_5 C dL_law_1335 ?_
  refine xiconst C (nI 1) dL_law_1337 (by decide) ?_
  refine xiadd C dL_law_1338 ?_
  rw [nI_add]
  refine xsld C hX hbl hbA (i + 1) dL_law_1339 rfl (by omega) hL ?_
  refine xaload_3 C dL_law_1340 ?_
  refine lwh C mh_at k_L_176 (h_at l hl9 G tc a0 u S hm (xs (i + 1)) qo o thr hthr) dL_law_1341 rfl (by decide) rfl (Nat.le_of_ble_eq_true rfl) ⟨by omega, by omega⟩ ?_
  refine xistore_6 C dL_law_1344 rfl (by decide) ?_
  refine xaload_2 C dL_law_1346 ?_
  refine xaload_0 C dL_law_1347 ?_
  refine xiload_5 C dL_law_1348 ?_
  refine xiconst C (nI 1) dL_law_1350 (by decide) ?_
  refine xiadd C dL_law_1351 ?_
  rw [nI_add]
  refine xsld C hX hbl hbA (i + 1) dL_law_1352 rfl (by omega) hL ?_
  refine lwmi C m_X6_at_ k_L_178 (g_at_ l G tc aX T tm (xs (i + 1))) dL_law_1353 rfl (by decide) rfl (Nat.le_of_ble_eq_true rfl) ⟨by omega, by omega⟩ ?_
  refine xistore_7 C dL_law_1356 rfl (by decide) ?_
  refine xaload_2 C dL_law_1358 ?_
  refine lwmi C m_X6_thrown k_L_97 (g_thrown l G tc aX (pAskA (xs (i + 1)) T)) dL_law_1359 rfl (by decide) rfl (Nat.le_of_ble_eq_true rfl) ⟨by omega, by omega⟩ ?_
  refine xiload_6 C dL_law_1362 ?_
  refine xicmp_eq C (tgt := 1369) dL_law_1364 (by decide) (fun hq => ?_) (fun hq => absurd hth hq)
  refine xiload_6 C dL_law_1369 ?_
  have kend : xAT p l e R s m args below meth c Q G A 9 (cells + 2) (slots + 6 * 2) (lwW tc qo qd a0 u aX (if thr = none then vp_updL o 0 ((iaG (iA (sI S)) (iE (sI S)) (xs (i + 1)) (iM (sI S))).toInt64) else o) (od) (if thr = none then S else S) (pAskA (xs (i + 1)) T)) [some (.ref b), some (.ref a0), some (.ref (aX 0)), some (.ref qo), some (.ref qd), some (.int (nI i)), some (.int (cd2 xIS thr)), some (.int (if askT (iR (zI T)) (xs (i + 1)) (nI (zN T)) = 0 then arV (zI T) (xs (i + 1)) else 0)), none] 1386 [] := by
    refine xgoto C (tgt := 1624) dL_law_1386 (by decide) ?_
    exact xfg_6 (xfg_7 kk)
  refine xif_ne C (tgt := 1386) dL_law_1371 (by decide) (fun hq => kend) (fun hq => ?_)
  have hN := cd2_0 hq
  have hv := hval hN
  have hO : (if thr = none then vp_updL o 0 ((iaG (iA (sI S)) (iE (sI S)) (xs (i + 1)) (iM (sI S))).toInt64) else o) 0 = (if askT (iR (zI T)) (xs (i + 1)) (nI (zN T)) = 0 then arV (zI T) (xs (i + 1)) else 0).toInt64 := by rw [if_pos hN, ← hv]; rfl
  refine xaload_3 C dL_law_1374 ?_
  refine xiconst C (nI 0) dL_law_1375 (by decide) ?_
  refine xlaldN C 0 0 dL_law_1376 rfl (by decide) rfl (by decide) ?_
  refine xiload_7 C dL_law_1377 ?_
  refine xi2l C dL_law_1379 ?_
  refine xlcmp C dL_law_1380 ?_
  refine xif_eq C (tgt := 1386) dL_law_1381 (by decide) (fun hz => kend) (fun hz => absurd (by rw [hO]; exact lg_cmp_self _) hz)
set_option maxHeartbeats 4000000 in
set_option maxRecDepth 100000 in
theorem q_count (hl9 : l.stackTraces = false) (C : CX p R s m args meth c cL_law 9 RL (some .boolean) G tc A 60) {b L : Nat} {xs : Nat → Int32} (hX : va_X b L xs s s.heap) (hbl : b < s.heap.size) (hbA : ¬ A b) (hL : L < 2 ^ 31) (qo qd a0 : Nat) (u : Nat → Nat → Nat) (aX : Nat → Nat) (o : Nat → Int64) (od : Nat → UInt64) (S : CS) (T : RS) (i : Nat) (hi : i + 5 ≤ L) (hR : cells + 3 ≤ R.cells ∧ slots + 18 ≤ R.slots) (hm : iM (sI S) ≤ 48) (tm : iM (zI T) ≤ 48) (thr : Option String) (hthr : (((thR (iR (sI S))).or ((thK (xs (i + 1))).or (if (decide ((xs (i + 2)) < 0) || !decide ((xs (i + 2)) < 3)) = true then some xIO else none)))) = thr) (hth : zT (pAskC (xs (i + 1)) (xs (i + 2)) T) = cd2 xIS thr) (hval : thr = none → (nI (cntG (iK (sI S)) (iT (sI S)) (xs (i + 1)) (xs (i + 2)) (iM (sI S)) 0 0)).toInt64 = (if ctT (iR (zI T)) (xs (i + 1)) (xs (i + 2)) = 0 then nI (cntG (iK (zI T)) (iT (zI T)) (xs (i + 1)) (xs (i + 2)) (iM (zI T)) 0 0) else 0).toInt64) (kk : xAT p l e R s m args below meth c Q G A 9 (cells + 3) (slots + 6 * 3) (lwW tc qo qd a0 u aX (if thr = none then vp_updL o 0 ((nI (cntG (iK (sI S)) (iT (sI S)) (xs (i + 1)) (xs (i + 2)) (iM (sI S)) 0 0)).toInt64) else o) (od) (if thr = none then S else S) (pAskC (xs (i + 1)) (xs (i + 2)) T)) [some (.ref b), some (.ref a0), some (.ref (aX 0)), some (.ref qo), some (.ref qd), some (.int (nI i)), none, none, none] 1624 []) : xAT p l e R s m args below meth c Q G A 9 (cells) (slots) (lwW tc qo qd a0 u aX (o) (od) (S) (T)) [some (.ref b), some (.ref a0), some (.ref (aX 0)), some (.ref qo), some (.ref qd), some (.int (nI i)), none, none, none] 1389 [] := by
  have hR1 := hR.1
  have hR2 := hR.2
  refine xaload_1 C dL_law_1389 ?_
  refine xaload_0 C dL_law_1390 ?_
  refine xiload_5 C dL_law_1391 ?_
  refine xiconst C (nI 1) dL_law_1393 (by decide) ?_
  refine xiadd C dL_law_1394 ?_
  rw [nI_add]
  refine xsld C hX hbl hbA (i + 1) dL_law_1395 rfl (by omega) hL ?_
  refine xaload_0 C dL_law_1396 ?_
  refine xiload_5 C dL_law_1397 ?_
  refine xiconst C (nI 2) dL_law_1399 (by decide) ?_
  refine xiadd C dL_law_1400 ?_
  rw [nI_add]
  refine xsld C hX hbl hbA (i + 2) dL_law_1401 rfl (by omega) hL ?_
  refine xaload_3 C dL_law_1402 ?_
  refine lwh C mh_count k_L_179 (h_count l hl9 G tc a0 u S hm (xs (i + 1)) (xs (i + 2)) qo o thr hthr) dL_law_1403 rfl (by decide) rfl (Nat.le_of_ble_eq_true rfl) ⟨by omega, by omega⟩ ?_
  refine xistore_6 C dL_law_1406 rfl (by decide) ?_
  refine xaload_2 C dL_law_1408 ?_
  refine xaload_0 C dL_law_1409 ?_
  refine xiload_5 C dL_law_1410 ?_
  refine xiconst C (nI 1) dL_law_1412 (by decide) ?_
  refine xiadd C dL_law_1413 ?_
  rw [nI_add]
  refine xsld C hX hbl hbA (i + 1) dL_law_1414 rfl (by omega) hL ?_
  refine xaload_0 C dL_law_1415 ?_
  refine xiload_5 C dL_law_1416 ?_
  refine xiconst C (nI 2) dL_law_1418 (by decide) ?_
  refine xiadd C dL_law_1419 ?_
  rw [nI_add]
  refine xsld C hX hbl hbA (i + 2) dL_law_1420 rfl (by omega) hL ?_
  refine lwmi C m_X6_count_ k_L_181 (g_count_ l G tc aX T tm (xs (i + 1)) (xs (i + 2))) dL_law_1421 rfl (by decide) rfl (Nat.le_of_ble_eq_true rfl) ⟨by omega, by omega⟩ ?_
  refine xistore_7 C dL_law_1424 rfl (by decide) ?_
  refine xaload_2 C dL_law_1426 ?_
  refine lwmi C m_X6_thrown k_L_97 (g_thrown l G tc aX (pAskC (xs (i + 1)) (xs (i + 2)) T)) dL_law_1427 rfl (by decide) rfl (Nat.le_of_ble_eq_true rfl) ⟨by omega, by omega⟩ ?_
  refine xiload_6 C dL_law_1430 ?_
  refine xicmp_eq C (tgt := 1437) dL_law_1432 (by decide) (fun hq => ?_) (fun hq => absurd hth hq)
  refine xiload_6 C dL_law_1437 ?_
  have kend : xAT p l e R s m args below meth c Q G A 9 (cells + 3) (slots + 6 * 3) (lwW tc qo qd a0 u aX (if thr = none then vp_updL o 0 ((nI (cntG (iK (sI S)) (iT (sI S)) (xs (i + 1)) (xs (i + 2)) (iM (sI S)) 0 0)).toInt64) else o) (od) (if thr = none then S else S) (pAskC (xs (i + 1)) (xs (i + 2)) T)) [some (.ref b), some (.ref a0), some (.ref (aX 0)), some (.ref qo), some (.ref qd), some (.int (nI i)), some (.int (cd2 xIS thr)), some (.int (if ctT (iR (zI T)) (xs (i + 1)) (xs (i + 2)) = 0 then nI (cntG (iK (zI T)) (iT (zI T)) (xs (i + 1)) (xs (i + 2)) (iM (zI T)) 0 0) else 0)), none] 1454 [] := by
    refine xgoto C (tgt := 1624) dL_law_1454 (by decide) ?_
    exact xfg_6 (xfg_7 kk)
  refine xif_ne C (tgt := 1454) dL_law_1439 (by decide) (fun hq => kend) (fun hq => ?_)
  have hN := cd2_0 hq
  have hv := hval hN
  have hO : (if thr = none then vp_updL o 0 ((nI (cntG (iK (sI S)) (iT (sI S)) (xs (i + 1)) (xs (i + 2)) (iM (sI S)) 0 0)).toInt64) else o) 0 = (if ctT (iR (zI T)) (xs (i + 1)) (xs (i + 2)) = 0 then nI (cntG (iK (zI T)) (iT (zI T)) (xs (i + 1)) (xs (i + 2)) (iM (zI T)) 0 0) else 0).toInt64 := by rw [if_pos hN, ← hv]; rfl
  refine xaload_3 C dL_law_1442 ?_
  refine xiconst C (nI 0) dL_law_1443 (by decide) ?_
  refine xlaldN C 0 0 dL_law_1444 rfl (by decide) rfl (by decide) ?_
  refine xiload_7 C dL_law_1445 ?_
  refine xi2l C dL_law_1447 ?_
  refine xlcmp C dL_law_1448 ?_
  refine xif_eq C (tgt := 1454) dL_law_1449 (by decide) (fun hz => kend) (fun hz => absurd (by rw [hO]; exact lg_cmp_self _) hz)
set_option maxHeartbeats 4000000 in
set_option maxRecDepth 100000 in
theorem q_water (hl9 : l.stackTraces = false) (C : CX p R s m args meth c cL_law 9 RL (some .boolean) G tc A 60) {b L : Nat} {xs : Nat → Int32} (hX : va_X b L xs s s.heap) (hbl : b < s.heap.size) (hbA : ¬ A b) (hL : L < 2 ^ 31) (qo qd a0 : Nat) (u : Nat → Nat → Nat) (aX : Nat → Nat) (o : Nat → Int64) (od : Nat → UInt64) (S : CS) (T : RS) (i : Nat) (hi : i + 5 ≤ L) (hR : cells + 3 ≤ R.cells ∧ slots + 18 ≤ R.slots) (hm : iM (sI S) ≤ 48) (tn : zN T ≤ 48) (tm : iM (zI T) ≤ 48) (thr : Option String) (hthr : ((thR (iR (sI S)))) = thr) (hth : zT (pAsk0_water  T) = cd1 thr) (hval : thr = none → (nI (sN S) - bocG (iP (sI S)) (iE (sI S)) (iA (sI S)) (-1) (iM (sI S)) 0 0).toInt64 = (if askT (iR (zI T)) 0 1 = 0 then nI (otV (zI T) (zN T)) else 0).toInt64) (kk : xAT p l e R s m args below meth c Q G A 9 (cells + 1) (slots + 6 * 1) (lwW tc qo qd a0 u aX (if thr = none then vp_updL o 0 ((nI (sN S) - bocG (iP (sI S)) (iE (sI S)) (iA (sI S)) (-1) (iM (sI S)) 0 0).toInt64) else o) (od) (if thr = none then S else S) (pAsk0_water  T)) [some (.ref b), some (.ref a0), some (.ref (aX 0)), some (.ref qo), some (.ref qd), some (.int (nI i)), none, none, none] 1624 []) : xAT p l e R s m args below meth c Q G A 9 (cells) (slots) (lwW tc qo qd a0 u aX (o) (od) (S) (T)) [some (.ref b), some (.ref a0), some (.ref (aX 0)), some (.ref qo), some (.ref qd), some (.int (nI i)), none, none, none] 1457 [] := by
  have hR1 := hR.1
  have hR2 := hR.2
  refine xaload_1 C dL_law_1457 ?_
  refine xaload_3 C dL_law_1458 ?_
  refine lwh C mh_water k_L_182 (h_water l hl9 G tc a0 u S hm  qo o thr hthr) dL_law_1459 rfl (by decide) rfl (Nat.le_of_ble_eq_true rfl) ⟨by omega, by omega⟩ ?_
  refine xistore_6 C dL_law_1462 rfl (by decide) ?_
  refine xaload_2 C dL_law_1464 ?_
  refine lwmi C m_X6_water k_L_184 (g_water l G tc aX T tn tm ) dL_law_1465 rfl (by decide) rfl (Nat.le_of_ble_eq_true rfl) ⟨by omega, by omega⟩ ?_
  refine xistore_7 C dL_law_1468 rfl (by decide) ?_
  refine xaload_2 C dL_law_1470 ?_
  refine lwmi C m_X6_thrown k_L_97 (g_thrown l G tc aX (pAsk0_water  T)) dL_law_1471 rfl (by decide) rfl (Nat.le_of_ble_eq_true rfl) ⟨by omega, by omega⟩ ?_
  refine xiload_6 C dL_law_1474 ?_
  refine xicmp_eq C (tgt := 1481) dL_law_1476 (by decide) (fun hq => ?_) (fun hq => absurd hth hq)
  refine xiload_6 C dL_law_1481 ?_
  have kend : xAT p l e R s m args below meth c Q G A 9 (cells + 1) (slots + 6 * 1) (lwW tc qo qd a0 u aX (if thr = none then vp_updL o 0 ((nI (sN S) - bocG (iP (sI S)) (iE (sI S)) (iA (sI S)) (-1) (iM (sI S)) 0 0).toInt64) else o) (od) (if thr = none then S else S) (pAsk0_water  T)) [some (.ref b), some (.ref a0), some (.ref (aX 0)), some (.ref qo), some (.ref qd), some (.int (nI i)), some (.int (cd1 thr)), some (.int (if askT (iR (zI T)) 0 1 = 0 then nI (otV (zI T) (zN T)) else 0)), none] 1498 [] := by
    refine xgoto C (tgt := 1624) dL_law_1498 (by decide) ?_
    exact xfg_6 (xfg_7 kk)
  refine xif_ne C (tgt := 1498) dL_law_1483 (by decide) (fun hq => kend) (fun hq => ?_)
  have hN := cd1_0 hq
  have hv := hval hN
  have hO : (if thr = none then vp_updL o 0 ((nI (sN S) - bocG (iP (sI S)) (iE (sI S)) (iA (sI S)) (-1) (iM (sI S)) 0 0).toInt64) else o) 0 = (if askT (iR (zI T)) 0 1 = 0 then nI (otV (zI T) (zN T)) else 0).toInt64 := by rw [if_pos hN, ← hv]; rfl
  refine xaload_3 C dL_law_1486 ?_
  refine xiconst C (nI 0) dL_law_1487 (by decide) ?_
  refine xlaldN C 0 0 dL_law_1488 rfl (by decide) rfl (by decide) ?_
  refine xiload_7 C dL_law_1489 ?_
  refine xi2l C dL_law_1491 ?_
  refine xlcmp C dL_law_1492 ?_
  refine xif_eq C (tgt := 1498) dL_law_1493 (by decide) (fun hz => kend) (fun hz => absurd (by rw [hO]; exact lg_cmp_self _) hz)
set_option maxHeartbeats 4000000 in
set_option maxRecDepth 100000 in
theorem q_left (hl9 : l.stackTraces = false) (C : CX p R s m args meth c cL_law 9 RL (some .boolean) G tc A 60) {b L : Nat} {xs : Nat → Int32} (hX : va_X b L xs s s.heap) (hbl : b < s.heap.size) (hbA : ¬ A b) (hL : L < 2 ^ 31) (qo qd a0 : Nat) (u : Nat → Nat → Nat) (aX : Nat → Nat) (o : Nat → Int64) (od : Nat → UInt64) (S : CS) (T : RS) (i : Nat) (hi : i + 5 ≤ L) (hR : cells + 3 ≤ R.cells ∧ slots + 18 ≤ R.slots) (thr : Option String) (hthr : ((thR (iR (sI S)))) = thr) (hth : zT (pAsk0_left  T) = cd1 thr) (hval : thr = none → (nI (iL (sI S))).toInt64 = (if askT (iR (zI T)) 0 1 = 0 then nI (iL (zI T)) else 0).toInt64) (kk : xAT p l e R s m args below meth c Q G A 9 (cells + 1) (slots + 6 * 1) (lwW tc qo qd a0 u aX (if thr = none then vp_updL o 0 ((nI (iL (sI S))).toInt64) else o) (od) (if thr = none then S else S) (pAsk0_left  T)) [some (.ref b), some (.ref a0), some (.ref (aX 0)), some (.ref qo), some (.ref qd), some (.int (nI i)), none, none, none] 1624 []) : xAT p l e R s m args below meth c Q G A 9 (cells) (slots) (lwW tc qo qd a0 u aX (o) (od) (S) (T)) [some (.ref b), some (.ref a0), some (.ref (aX 0)), some (.ref qo), some (.ref qd), some (.int (nI i)), none, none, none] 1501 [] := by
  have hR1 := hR.1
  have hR2 := hR.2
  refine xaload_1 C dL_law_1501 ?_
  refine xaload_3 C dL_law_1502 ?_
  refine lwh C mh_left k_L_185 (h_left l hl9 G tc a0 u S   qo o thr hthr) dL_law_1503 rfl (by decide) rfl (Nat.le_of_ble_eq_true rfl) ⟨by omega, by omega⟩ ?_
  refine xistore_6 C dL_law_1506 rfl (by decide) ?_
  refine xaload_2 C dL_law_1508 ?_
  refine lwmi C m_X6_left k_L_187 (g_left l G tc aX T  ) dL_law_1509 rfl (by decide) rfl (Nat.le_of_ble_eq_true rfl) ⟨by omega, by omega⟩ ?_
  refine xistore_7 C dL_law_1512 rfl (by decide) ?_
  refine xaload_2 C dL_law_1514 ?_
  refine lwmi C m_X6_thrown k_L_97 (g_thrown l G tc aX (pAsk0_left  T)) dL_law_1515 rfl (by decide) rfl (Nat.le_of_ble_eq_true rfl) ⟨by omega, by omega⟩ ?_
  refine xiload_6 C dL_law_1518 ?_
  refine xicmp_eq C (tgt := 1525) dL_law_1520 (by decide) (fun hq => ?_) (fun hq => absurd hth hq)
  refine xiload_6 C dL_law_1525 ?_
  have kend : xAT p l e R s m args below meth c Q G A 9 (cells + 1) (slots + 6 * 1) (lwW tc qo qd a0 u aX (if thr = none then vp_updL o 0 ((nI (iL (sI S))).toInt64) else o) (od) (if thr = none then S else S) (pAsk0_left  T)) [some (.ref b), some (.ref a0), some (.ref (aX 0)), some (.ref qo), some (.ref qd), some (.int (nI i)), some (.int (cd1 thr)), some (.int (if askT (iR (zI T)) 0 1 = 0 then nI (iL (zI T)) else 0)), none] 1542 [] := by
    refine xgoto C (tgt := 1624) dL_law_1542 (by decide) ?_
    exact xfg_6 (xfg_7 kk)
  refine xif_ne C (tgt := 1542) dL_law_1527 (by decide) (fun hq => kend) (fun hq => ?_)
  have hN := cd1_0 hq
  have hv := hval hN
  have hO : (if thr = none then vp_updL o 0 ((nI (iL (sI S))).toInt64) else o) 0 = (if askT (iR (zI T)) 0 1 = 0 then nI (iL (zI T)) else 0).toInt64 := by rw [if_pos hN, ← hv]; rfl
  refine xaload_3 C dL_law_1530 ?_
  refine xiconst C (nI 0) dL_law_1531 (by decide) ?_
  refine xlaldN C 0 0 dL_law_1532 rfl (by decide) rfl (by decide) ?_
  refine xiload_7 C dL_law_1533 ?_
  refine xi2l C dL_law_1535 ?_
  refine xlcmp C dL_law_1536 ?_
  refine xif_eq C (tgt := 1542) dL_law_1537 (by decide) (fun hz => kend) (fun hz => absurd (by rw [hO]; exact lg_cmp_self _) hz)
set_option maxHeartbeats 4000000 in
set_option maxRecDepth 100000 in
theorem q_share (hl9 : l.stackTraces = false) (C : CX p R s m args meth c cL_law 9 RL (some .boolean) G tc A 60) {b L : Nat} {xs : Nat → Int32} (hX : va_X b L xs s s.heap) (hbl : b < s.heap.size) (hbA : ¬ A b) (hL : L < 2 ^ 31) (qo qd a0 : Nat) (u : Nat → Nat → Nat) (aX : Nat → Nat) (o : Nat → Int64) (od : Nat → UInt64) (S : CS) (T : RS) (i : Nat) (hi : i + 5 ≤ L) (hR : cells + 3 ≤ R.cells ∧ slots + 18 ≤ R.slots) (hn : sN S ≤ 48) (hm : iM (sI S) ≤ 48) (hnan : iR (sI S) = true → ¬ sN S = 0 → vf_n64 (FP.ddiv (FP.i2d (bocG (iP (sI S)) (iE (sI S)) (iA (sI S)) (-1) (iM (sI S)) 0 0)) (FP.i2d (nI (sN S))))) (tn : zN T ≤ 48) (tm : iM (zI T) ≤ 48) (tnan : askT (iR (zI T)) 0 1 = 0 → ¬ zN T = 0 → vf_n64 (FP.ddiv (FP.i2d (nI (zN T) - nI (otV (zI T) (zN T)))) (FP.i2d (nI (zN T))))) (thr : Option String) (hthr : ((thR (iR (sI S)))) = thr) (hth : zT (pAsk0_share  T) = cd1 thr) (hval : thr = none → (if sN S = 0 then FP.dconst0 else FP.ddiv (FP.i2d (bocG (iP (sI S)) (iE (sI S)) (iA (sI S)) (-1) (iM (sI S)) 0 0)) (FP.i2d (nI (sN S)))) = (if askT (iR (zI T)) 0 1 = 0 then (if (zN T) = 0 then FP.dconst0 else FP.ddiv (FP.i2d (nI (zN T) - nI (otV (zI T) (zN T)))) (FP.i2d (nI (zN T)))) else FP.dconst0)) (kk : xAT p l e R s m args below meth c Q G A 9 (cells + 1) (slots + 6 * 1) (lwW tc qo qd a0 u aX (o) (if thr = none then vf_upd od 0 (if sN S = 0 then FP.dconst0 else FP.ddiv (FP.i2d (bocG (iP (sI S)) (iE (sI S)) (iA (sI S)) (-1) (iM (sI S)) 0 0)) (FP.i2d (nI (sN S)))) else od) (if thr = none then S else S) (pAsk0_share  T)) [some (.ref b), some (.ref a0), some (.ref (aX 0)), some (.ref qo), some (.ref qd), some (.int (nI i)), none, none, none] 1624 []) : xAT p l e R s m args below meth c Q G A 9 (cells) (slots) (lwW tc qo qd a0 u aX (o) (od) (S) (T)) [some (.ref b), some (.ref a0), some (.ref (aX 0)), some (.ref qo), some (.ref qd), some (.int (nI i)), none, none, none] 1545 [] := by
  have hR1 := hR.1
  have hR2 := hR.2
  refine xaload_1 C dL_law_1545 ?_
  refine xaload_4 C dL_law_1546 ?_
  refine lwd C mh_share k_L_188 (h_share l hl9 G tc a0 u S hn hm hnan  qd od thr hthr) dL_law_1548 rfl (by decide) rfl (Nat.le_of_ble_eq_true rfl) ⟨by omega, by omega⟩ ?_
  refine xistore_6 C dL_law_1551 rfl (by decide) ?_
  refine xaload_2 C dL_law_1553 ?_
  refine lwmd C m_X6_share k_L_191 (g_share l G tc aX T tn tm tnan ) dL_law_1554 rfl (by decide) rfl (Nat.le_of_ble_eq_true rfl) ⟨by omega, by omega⟩ ?_
  refine xdstore_7 C dL_law_1557 rfl (by decide) ?_
  refine xaload_2 C dL_law_1559 ?_
  refine lwmi C m_X6_thrown k_L_97 (g_thrown l G tc aX (pAsk0_share  T)) dL_law_1560 rfl (by decide) rfl (Nat.le_of_ble_eq_true rfl) ⟨by omega, by omega⟩ ?_
  refine xiload_6 C dL_law_1563 ?_
  refine xicmp_eq C (tgt := 1570) dL_law_1565 (by decide) (fun hq => ?_) (fun hq => absurd hth hq)
  refine xiload_6 C dL_law_1570 ?_
  have kend : xAT p l e R s m args below meth c Q G A 9 (cells + 1) (slots + 6 * 1) (lwW tc qo qd a0 u aX (o) (if thr = none then vf_upd od 0 (if sN S = 0 then FP.dconst0 else FP.ddiv (FP.i2d (bocG (iP (sI S)) (iE (sI S)) (iA (sI S)) (-1) (iM (sI S)) 0 0)) (FP.i2d (nI (sN S)))) else od) (if thr = none then S else S) (pAsk0_share  T)) [some (.ref b), some (.ref a0), some (.ref (aX 0)), some (.ref qo), some (.ref qd), some (.int (nI i)), some (.int (cd1 thr)), some (.double (if askT (iR (zI T)) 0 1 = 0 then (if (zN T) = 0 then FP.dconst0 else FP.ddiv (FP.i2d (nI (zN T) - nI (otV (zI T) (zN T)))) (FP.i2d (nI (zN T)))) else FP.dconst0)), none] 1607 [] := by
    refine xgoto C (tgt := 1624) dL_law_1607 (by decide) ?_
    exact xfg_6 (xfg_7 kk)
  refine xif_ne C (tgt := 1607) dL_law_1572 (by decide) (fun hq => kend) (fun hq => ?_)
  have hN := cd1_0 hq
  have hv := hval hN
  have hO : (if thr = none then vf_upd od 0 (if sN S = 0 then FP.dconst0 else FP.ddiv (FP.i2d (bocG (iP (sI S)) (iE (sI S)) (iA (sI S)) (-1) (iM (sI S)) 0 0)) (FP.i2d (nI (sN S)))) else od) 0 = (if askT (iR (zI T)) 0 1 = 0 then (if (zN T) = 0 then FP.dconst0 else FP.ddiv (FP.i2d (nI (zN T) - nI (otV (zI T) (zN T)))) (FP.i2d (nI (zN T)))) else FP.dconst0) := by rw [if_pos hN, ← hv]; rfl
  refine xaload_4 C dL_law_1575 ?_
  refine xiconst C (nI 0) dL_law_1577 (by decide) ?_
  refine xdaldN C 0 24 dL_law_1578 rfl (by decide) rfl (by decide) ?_
  refine xtop (w := .double (if askT (iR (zI T)) 0 1 = 0 then (if (zN T) = 0 then FP.dconst0 else FP.ddiv (FP.i2d (nI (zN T) - nI (otV (zI T) (zN T)))) (FP.i2d (nI (zN T)))) else FP.dconst0)) (congrArg Value.double hO) ?_
  refine xdload_7 C dL_law_1579 ?_
  refine xdcmp C dL_law_1581 ?_
  refine xif_eq C (tgt := 1607) dL_law_1582 (by decide) (fun hz => kend) (fun hz => ?_)
  refine xaload_4 C dL_law_1585 ?_
  refine xiconst C (nI 0) dL_law_1587 (by decide) ?_
  refine xdaldN C 0 24 dL_law_1588 rfl (by decide) rfl (by decide) ?_
  refine xtop (w := .double (if askT (iR (zI T)) 0 1 = 0 then (if (zN T) = 0 then FP.dconst0 else FP.ddiv (FP.i2d (nI (zN T) - nI (otV (zI T) (zN T)))) (FP.i2d (nI (zN T)))) else FP.dconst0)) (congrArg Value.double hO) ?_
  refine xaload_4 C dL_law_1589 ?_
  refine xiconst C (nI 0) dL_law_1591 (by decide) ?_
  refine xdaldN C 0 24 dL_law_1592 rfl (by decide) rfl (by decide) ?_
  refine xtop (w := .double (if askT (iR (zI T)) 0 1 = 0 then (if (zN T) = 0 then FP.dconst0 else FP.ddiv (FP.i2d (nI (zN T) - nI (otV (zI T) (zN T)))) (FP.i2d (nI (zN T)))) else FP.dconst0)) (congrArg Value.double hO) ?_
  refine xdcmp C dL_law_1593 ?_
  refine xif_eq C (tgt := 1605) dL_law_1594 (by decide) (fun hz2 => absurd hz2 hz) (fun hz2 => ?_)
  refine xdload_7 C dL_law_1597 ?_
  refine xdload_7 C dL_law_1599 ?_
  refine xdcmp C dL_law_1601 ?_
  refine xif_ne C (tgt := 1607) dL_law_1602 (by decide) (fun _ => kend) (fun hz3 => absurd hz3 hz)
set_option maxHeartbeats 4000000 in
set_option maxRecDepth 100000 in
theorem q_size (C : CX p R s m args meth c cL_law 9 RL (some .boolean) G tc A 60) {b L : Nat} {xs : Nat → Int32} (hX : va_X b L xs s s.heap) (hbl : b < s.heap.size) (hbA : ¬ A b) (hL : L < 2 ^ 31) (qo qd a0 : Nat) (u : Nat → Nat → Nat) (aX : Nat → Nat) (o : Nat → Int64) (od : Nat → UInt64) (S : CS) (T : RS) (i : Nat) (hi : i + 5 ≤ L) (hR : cells + 3 ≤ R.cells ∧ slots + 18 ≤ R.slots) (hval : nI (sN S) = nI (zN T)) (kk : xAT p l e R s m args below meth c Q G A 9 (cells) (slots) (lwW tc qo qd a0 u aX (o) (od) (S) (pT0  T)) [some (.ref b), some (.ref a0), some (.ref (aX 0)), some (.ref qo), some (.ref qd), some (.int (nI i)), none, none, none] 1624 []) : xAT p l e R s m args below meth c Q G A 9 (cells) (slots) (lwW tc qo qd a0 u aX (o) (od) (S) (T)) [some (.ref b), some (.ref a0), some (.ref (aX 0)), some (.ref qo), some (.ref qd), some (.int (nI i)), none, none, none] 384 [] := by
  have hR1 := hR.1
  have hR2 := hR.2
  refine xaload_1 C dL_law_384 ?_
  refine lwci C m_X5_size k_L_108 (f_size l G tc a0 u S  ) dL_law_385 rfl (by decide) rfl (Nat.le_of_ble_eq_true rfl) ⟨by omega, by omega⟩ ?_
  refine xaload_2 C dL_law_388 ?_
  refine lwmi C m_X6_size k_L_111 (g_size l G tc aX T  ) dL_law_389 rfl (by decide) rfl (Nat.le_of_ble_eq_true rfl) ⟨by omega, by omega⟩ ?_
  exact xicmp_eq C (tgt := 1624) dL_law_392 (by decide) (fun _ => kk) (fun hz => absurd hval hz)
set_option maxHeartbeats 4000000 in
set_option maxRecDepth 100000 in
theorem q_setLenient (C : CX p R s m args meth c cL_law 9 RL (some .boolean) G tc A 60) {b L : Nat} {xs : Nat → Int32} (hX : va_X b L xs s s.heap) (hbl : b < s.heap.size) (hbA : ¬ A b) (hL : L < 2 ^ 31) (qo qd a0 : Nat) (u : Nat → Nat → Nat) (aX : Nat → Nat) (o : Nat → Int64) (od : Nat → UInt64) (S : CS) (T : RS) (i : Nat) (hi : i + 5 ≤ L) (hR : cells + 3 ≤ R.cells ∧ slots + 18 ≤ R.slots) (hval : bI (sL S) = bI (zL T)) (kk : xAT p l e R s m args below meth c Q G A 9 (cells) (slots) (lwW tc qo qd a0 u aX (o) (od) (oLen (nb (xs (i + 1))) S) (pLen (nb (xs (i + 1))) T)) [some (.ref b), some (.ref a0), some (.ref (aX 0)), some (.ref qo), some (.ref qd), some (.int (nI i)), none, none, none] 1624 []) : xAT p l e R s m args below meth c Q G A 9 (cells) (slots) (lwW tc qo qd a0 u aX (o) (od) (S) (T)) [some (.ref b), some (.ref a0), some (.ref (aX 0)), some (.ref qo), some (.ref qd), some (.int (nI i)), none, none, none] 748 [] := by
  have hR1 := hR.1
  have hR2 := hR.2
  refine xaload_1 C dL_law_748 ?_
  refine xaload_0 C dL_law_749 ?_
  refine xiload_5 C dL_law_750 ?_
  refine xiconst C (nI 1) dL_law_752 (by decide) ?_
  refine xiadd C dL_law_753 ?_
  rw [nI_add]
  refine xsld C hX hbl hbA (i + 1) dL_law_754 rfl (by omega) hL ?_
  refine xbool C dL_law_755 dL_law_758 dL_law_759 dL_law_762 ?_
  refine lwci C m_X5_setLenient k_L_126 (f_setLenient l G tc a0 u S  (nb (xs (i + 1)))) dL_law_763 rfl (by decide) rfl (Nat.le_of_ble_eq_true rfl) ⟨by omega, by omega⟩ ?_
  refine xaload_2 C dL_law_766 ?_
  refine xaload_0 C dL_law_767 ?_
  refine xiload_5 C dL_law_768 ?_
  refine xiconst C (nI 1) dL_law_770 (by decide) ?_
  refine xiadd C dL_law_771 ?_
  rw [nI_add]
  refine xsld C hX hbl hbA (i + 1) dL_law_772 rfl (by omega) hL ?_
  refine xbool C dL_law_773 dL_law_776 dL_law_777 dL_law_780 ?_
  refine lwmi C m_X6_setLenient k_L_130 (g_setLenient l G tc aX T  (nb (xs (i + 1)))) dL_law_781 rfl (by decide) rfl (Nat.le_of_ble_eq_true rfl) ⟨by omega, by omega⟩ ?_
  exact xicmp_eq C (tgt := 1624) dL_law_784 (by decide) (fun _ => kk) (fun hz => absurd hval hz)
set_option maxHeartbeats 4000000 in
set_option maxRecDepth 100000 in
theorem q_quick (C : CX p R s m args meth c cL_law 9 RL (some .boolean) G tc A 60) {b L : Nat} {xs : Nat → Int32} (hX : va_X b L xs s s.heap) (hbl : b < s.heap.size) (hbA : ¬ A b) (hL : L < 2 ^ 31) (qo qd a0 : Nat) (u : Nat → Nat → Nat) (aX : Nat → Nat) (o : Nat → Int64) (od : Nat → UInt64) (S : CS) (T : RS) (i : Nat) (hi : i + 5 ≤ L) (hR : cells + 3 ≤ R.cells ∧ slots + 18 ≤ R.slots) (hn : sN S ≤ 48) (tz : ∀ w, zZ T w ≤ 3) (tn : zN T ≤ 48) (hval : nI (iM (oQI S)) = nI (iM (setRd (guG (nI (zN T)) (nI 2) (iQ (pQr T)) (pQr T)) true))) (kk : xAT p l e R s m args below meth c Q G A 9 (cells) (slots) (lwW tc qo qd a0 u aX (o) (od) (oQuick S) (pQuick  T)) [some (.ref b), some (.ref a0), some (.ref (aX 0)), some (.ref qo), some (.ref qd), some (.int (nI i)), none, none, none] 1624 []) : xAT p l e R s m args below meth c Q G A 9 (cells) (slots) (lwW tc qo qd a0 u aX (o) (od) (S) (T)) [some (.ref b), some (.ref a0), some (.ref (aX 0)), some (.ref qo), some (.ref qd), some (.int (nI i)), none, none, none] 789 [] := by
  have hR1 := hR.1
  have hR2 := hR.2
  refine xaload_1 C dL_law_789 ?_
  refine lwci C m_X5_quick k_L_131 (f_quick l G tc a0 u S hn ) dL_law_790 rfl (by decide) rfl (Nat.le_of_ble_eq_true rfl) ⟨by omega, by omega⟩ ?_
  refine xaload_2 C dL_law_793 ?_
  refine lwmi C m_X6_quick k_L_134 (g_quick l G tc aX T tz tn ) dL_law_794 rfl (by decide) rfl (Nat.le_of_ble_eq_true rfl) ⟨by omega, by omega⟩ ?_
  exact xicmp_eq C (tgt := 1624) dL_law_797 (by decide) (fun _ => kk) (fun hz => absurd hval hz)
set_option maxHeartbeats 4000000 in
set_option maxRecDepth 100000 in
theorem q_best (C : CX p R s m args meth c cL_law 9 RL (some .boolean) G tc A 60) {b L : Nat} {xs : Nat → Int32} (hX : va_X b L xs s s.heap) (hbl : b < s.heap.size) (hbA : ¬ A b) (hL : L < 2 ^ 31) (qo qd a0 : Nat) (u : Nat → Nat → Nat) (aX : Nat → Nat) (o : Nat → Int64) (od : Nat → UInt64) (S : CS) (T : RS) (i : Nat) (hi : i + 5 ≤ L) (hR : cells + 3 ≤ R.cells ∧ slots + 18 ≤ R.slots) (hn : sN S ≤ 48) (hrm : (oMk S).2.2.2.2 ≤ 48) (tz : ∀ w, zZ T w ≤ 3) (tn : zN T ≤ 48) (hval : nI (oBL S) = nI (iL (pBI T))) (kk : xAT p l e R s m args below meth c Q G A 9 (cells) (slots) (lwW tc qo qd a0 u aX (o) (od) (oBest S) (pBest  T)) [some (.ref b), some (.ref a0), some (.ref (aX 0)), some (.ref qo), some (.ref qd), some (.int (nI i)), none, none, none] 1624 []) : xAT p l e R s m args below meth c Q G A 9 (cells) (slots) (lwW tc qo qd a0 u aX (o) (od) (S) (T)) [some (.ref b), some (.ref a0), some (.ref (aX 0)), some (.ref qo), some (.ref qd), some (.int (nI i)), none, none, none] 802 [] := by
  have hR1 := hR.1
  have hR2 := hR.2
  refine xaload_1 C dL_law_802 ?_
  refine lwci C m_X5_best k_L_135 (f_best l G tc a0 u S hn hrm ) dL_law_803 rfl (by decide) rfl (Nat.le_of_ble_eq_true rfl) ⟨by omega, by omega⟩ ?_
  refine xaload_2 C dL_law_806 ?_
  refine lwmi C m_X6_best k_L_138 (g_best l G tc aX T tz tn ) dL_law_807 rfl (by decide) rfl (Nat.le_of_ble_eq_true rfl) ⟨by omega, by omega⟩ ?_
  exact xicmp_eq C (tgt := 1624) dL_law_810 (by decide) (fun _ => kk) (fun hz => absurd hval hz)
set_option maxHeartbeats 4000000 in
set_option maxRecDepth 100000 in
theorem q_hasReading (C : CX p R s m args meth c cL_law 9 RL (some .boolean) G tc A 60) {b L : Nat} {xs : Nat → Int32} (hX : va_X b L xs s s.heap) (hbl : b < s.heap.size) (hbA : ¬ A b) (hL : L < 2 ^ 31) (qo qd a0 : Nat) (u : Nat → Nat → Nat) (aX : Nat → Nat) (o : Nat → Int64) (od : Nat → UInt64) (S : CS) (T : RS) (i : Nat) (hi : i + 5 ≤ L) (hR : cells + 3 ≤ R.cells ∧ slots + 18 ≤ R.slots) (hval : bI (iR (sI S)) = bI (iR (zI T))) (kk : xAT p l e R s m args below meth c Q G A 9 (cells) (slots) (lwW tc qo qd a0 u aX (o) (od) (S) (pT0b  T)) [some (.ref b), some (.ref a0), some (.ref (aX 0)), some (.ref qo), some (.ref qd), some (.int (nI i)), none, none, none] 1624 []) : xAT p l e R s m args below meth c Q G A 9 (cells) (slots) (lwW tc qo qd a0 u aX (o) (od) (S) (T)) [some (.ref b), some (.ref a0), some (.ref (aX 0)), some (.ref qo), some (.ref qd), some (.int (nI i)), none, none, none] 815 [] := by
  have hR1 := hR.1
  have hR2 := hR.2
  refine xaload_1 C dL_law_815 ?_
  refine lwci C m_X5_hasReading k_L_139 (f_hasReading l G tc a0 u S  ) dL_law_816 rfl (by decide) rfl (Nat.le_of_ble_eq_true rfl) ⟨by omega, by omega⟩ ?_
  refine xaload_2 C dL_law_819 ?_
  refine lwmi C m_X6_hasReading k_L_143 (g_hasReading l G tc aX T  ) dL_law_820 rfl (by decide) rfl (Nat.le_of_ble_eq_true rfl) ⟨by omega, by omega⟩ ?_
  exact xicmp_eq C (tgt := 1624) dL_law_823 (by decide) (fun _ => kk) (fun hz => absurd hval hz)
set_option maxHeartbeats 4000000 in
set_option maxRecDepth 100000 in
theorem q_markCount (C : CX p R s m args meth c cL_law 9 RL (some .boolean) G tc A 60) {b L : Nat} {xs : Nat → Int32} (hX : va_X b L xs s s.heap) (hbl : b < s.heap.size) (hbA : ¬ A b) (hL : L < 2 ^ 31) (qo qd a0 : Nat) (u : Nat → Nat → Nat) (aX : Nat → Nat) (o : Nat → Int64) (od : Nat → UInt64) (S : CS) (T : RS) (i : Nat) (hi : i + 5 ≤ L) (hR : cells + 3 ≤ R.cells ∧ slots + 18 ≤ R.slots) (hn : sN S ≤ 48) (tz : ∀ w, zZ T w ≤ 3) (tn : zN T ≤ 48) (hval : nI (oMk S).2.2.2.2 = nI (pMk T).1) (kk : xAT p l e R s m args below meth c Q G A 9 (cells) (slots) (lwW tc qo qd a0 u aX (o) (od) (oMark S) (pMark  T)) [some (.ref b), some (.ref a0), some (.ref (aX 0)), some (.ref qo), some (.ref qd), some (.int (nI i)), none, none, none] 1624 []) : xAT p l e R s m args below meth c Q G A 9 (cells) (slots) (lwW tc qo qd a0 u aX (o) (od) (S) (T)) [some (.ref b), some (.ref a0), some (.ref (aX 0)), some (.ref qo), some (.ref qd), some (.int (nI i)), none, none, none] 828 [] := by
  have hR1 := hR.1
  have hR2 := hR.2
  refine xaload_1 C dL_law_828 ?_
  refine lwci C m_X5_markCount k_L_144 (f_markCount l G tc a0 u S hn ) dL_law_829 rfl (by decide) rfl (Nat.le_of_ble_eq_true rfl) ⟨by omega, by omega⟩ ?_
  refine xaload_2 C dL_law_832 ?_
  refine lwmi C m_X6_markCount k_L_147 (g_markCount l G tc aX T tz tn ) dL_law_833 rfl (by decide) rfl (Nat.le_of_ble_eq_true rfl) ⟨by omega, by omega⟩ ?_
  exact xicmp_eq C (tgt := 1624) dL_law_836 (by decide) (fun _ => kk) (fun hz => absurd hval hz)
set_option maxHeartbeats 4000000 in
set_option maxRecDepth 100000 in
theorem q_digest (C : CX p R s m args meth c cL_law 9 RL (some .boolean) G tc A 60) {b L : Nat} {xs : Nat → Int32} (hX : va_X b L xs s s.heap) (hbl : b < s.heap.size) (hbA : ¬ A b) (hL : L < 2 ^ 31) (qo qd a0 : Nat) (u : Nat → Nat → Nat) (aX : Nat → Nat) (o : Nat → Int64) (od : Nat → UInt64) (S : CS) (T : RS) (i : Nat) (hi : i + 5 ≤ L) (hR : cells + 3 ≤ R.cells ∧ slots + 18 ≤ R.slots) (hn : sN S ≤ 48) (hm : iM (sI S) ≤ 48) (tz : ∀ w, zZ T w ≤ 3) (tn : zN T ≤ 48) (tm : iM (zI T) ≤ 48) (hval : dgAll (sB S) (sN S) (sE S) (sL S) (sO S) (sC S) (sJ S) (sR S) (sU S) (sI S) = dgM (zB T) (zN T) (zE T) (zL T) (zZ T) (zR T) (zO T) (zJ T) (zI T)) (kk : xAT p l e R s m args below meth c Q G A 9 (cells) (slots) (lwW tc qo qd a0 u aX (o) (od) (S) (pT0c  T)) [some (.ref b), some (.ref a0), some (.ref (aX 0)), some (.ref qo), some (.ref qd), some (.int (nI i)), none, none, none] 1624 []) : xAT p l e R s m args below meth c Q G A 9 (cells) (slots) (lwW tc qo qd a0 u aX (o) (od) (S) (T)) [some (.ref b), some (.ref a0), some (.ref (aX 0)), some (.ref qo), some (.ref qd), some (.int (nI i)), none, none, none] 1610 [] := by
  have hR1 := hR.1
  have hR2 := hR.2
  refine xaload_1 C dL_law_1610 ?_
  refine lwcl C m_X5_digest k_L_192 (f_digest l G tc a0 u S hn hm ) dL_law_1611 rfl (by decide) rfl (Nat.le_of_ble_eq_true rfl) ⟨by omega, by omega⟩ ?_
  refine xaload_2 C dL_law_1614 ?_
  refine lwml C m_X6_digest k_L_196 (g_digest l G tc aX T tz tn tm ) dL_law_1615 rfl (by decide) rfl (Nat.le_of_ble_eq_true rfl) ⟨by omega, by omega⟩ ?_
  refine xlcmp C dL_law_1618 ?_
  refine xif_eq C (tgt := 1624) dL_law_1619 (by decide) (fun _ => kk) (fun hz => absurd (by rw [hval]; exact lg_cmp_self _) hz)
end XLC
