section XH
variable {p : Program} {l : Launch} {e : Env} {R : Room} {s : State} {m : MethodId} {args : Array Value} {below : List Frame} {meth : Method} {c : Code} {Q : State → Prop} {G : va_G} {tc : Nat → ClassId} {A : Nat → Prop} {cc : ByteArray} {nL : Nat} {own : String} {ret : Option FieldType} {d cells slots pc : Nat} {ws : va_W} {lv : List (Option Value)} {st : List Value}

def xF (own : String) (idx ci k : Nat) : Prop := ∃ (C : String) (T : u_T) (N : Nat), vwCl[ci]? = some (C, T, N) ∧ k < N ∧ (∀ w ∈ u_ws C T N, w ∈ wsL_law) ∧ Cond.fieldLink own idx (T k).1 (T k).2.1 (T k).2.2.1 ∈ wsL_law
def xFw (own : String) (idx ci k : Nat) (ty : FieldType) (fin : Bool) : Prop := ∃ (C : String) (T : u_T) (N : Nat) (ty0 : Nat → FieldType), vwCl[ci]? = some (C, T, N) ∧ k < N ∧ (∀ w ∈ u_ws C T N, w ∈ wsL_law) ∧ Cond.fieldLink own idx (T k).1 (T k).2.1 (T k).2.2.1 ∈ wsL_law ∧ (∀ k, k < N → parseFieldDescriptor (T k).2.2.1 = some (ty0 k)) ∧ (∀ a, a < N → ∀ b, b < N → a ≠ b → (T a).2.1 ≠ (T b).2.1) ∧ (T k).2.2.2 = fin ∧ parseFieldDescriptor (T k).2.2.1 = some ty ∧ (T k).1 = C
theorem xtop {v w : Value} (h : v = w) (k : xAT p l e R s m args below meth c Q G A nL cells slots ws lv pc (w :: st)) : xAT p l e R s m args below meth c Q G A nL cells slots ws lv pc (v :: st) := h ▸ k
theorem xwid {k n : Nat} (h1 : cells ≤ k) (h2 : slots ≤ n) (kk : xAT p l e R s m args below meth c Q G A nL k n ws lv pc st) : xAT p l e R s m args below meth c Q G A nL cells slots ws lv pc st := fun H locs ls hP hD hS hl => W.widen h1 h2 (kk H locs ls hP hD hS hl)
theorem xws {w' : va_W} (h : ws = w') (k : xAT p l e R s m args below meth c Q G A nL cells slots w' lv pc st) : xAT p l e R s m args below meth c Q G A nL cells slots ws lv pc st := h ▸ k
theorem xlvw {lv' : List (Option Value)} (h : ∀ (i : Nat) (v : Value), lv'[i]? = some (some v) → lv[i]? = some (some v)) (k : xAT p l e R s m args below meth c Q G A nL cells slots ws lv' pc st) : xAT p l e R s m args below meth c Q G A nL cells slots ws lv pc st := fun H locs ls hP hD hS hl => k H locs ls hP hD hS ⟨hl.1, hl.2.1, fun i v hi => hl.2.2 i v (h i v hi)⟩
theorem xget (C : CX p R s m args meth c cc nL own ret G tc A d) {a ci k idx : Nat} {fs : List Value} {v : Value} (q0 : Nat) (hf : xF own idx ci k) (hdg : decode cc pc = .ok (.getfield idx, 3)) (he : ws[q0]? = some (a, .inr (ci, fs))) (hv : fs[k]? = some v) (kk : xAT p l e R s m args below meth c Q G A nL cells slots ws lv (pc + 3) (v :: st)) : xAT p l e R s m args below meth c Q G A nL cells slots ws lv pc (.ref a :: st) := by
  obtain ⟨C', T, N, h1, h2, h3, h4⟩ := hf
  exact fun H locs ls hP hD hS hl => va_get C.1 C.2.1 C.2.2.2.2.1 h3 C.ow C.K hP q0 he h1 k h2 (C.w h4) (fun _ h9 => h9) hv hdg (kk H locs ls hP hD hS hl)
theorem xput (C : CX p R s m args meth c cc nL own ret G tc A d) {a ci k idx : Nat} {fs : List Value} {v : Value} {ty : FieldType} (q0 : Nat) (w' : va_W) (hf : xFw own idx ci k ty false) (hdg : decode cc pc = .ok (.putfield idx, 3)) (he : ws[q0]? = some (a, .inr (ci, fs))) (hl : k < fs.length) (hn : narrow ty v = v) (hfit : fits ty v = true) (hw : ws.set q0 (a, .inr (ci, fs.set k v)) = w') (kk : xAT p l e R s m args below meth c Q G A nL cells slots w' lv (pc + 3) st) : xAT p l e R s m args below meth c Q G A nL cells slots ws lv pc (v :: .ref a :: st) := by
  obtain ⟨C', T, N, ty0, h1, h2, h3, h4, h5, h6, h7, h8, -⟩ := hf
  exact fun H locs ls hP hD hS hL => va_put C.1 C.2.1 C.2.2.2.2.1 h3 ty0 h5 h6 C.ow C.K hP hD hS q0 he h1 k h2 (C.w h4) (fun _ h9 => h9) h7 h8 hn hfit hl hdg (fun H1 locs1 q1 q2 q3 => kk H1 locs1 ls (hw ▸ q1) (hw ▸ q2) q3 hL)
theorem xputF (C : CX p R s m args meth c cc nL own ret G tc A d) (hin : meth.name = "<init>") {a ci k idx : Nat} {fs : List Value} {v : Value} {ty : FieldType} (q0 : Nat) (w' : va_W) (hf : xFw own idx ci k ty true) (ho : (vwCl[ci]?).map (fun q => q.1) = some own) (hdg : decode cc pc = .ok (.putfield idx, 3)) (he : ws[q0]? = some (a, .inr (ci, fs))) (hl : k < fs.length) (hn : narrow ty v = v) (hfit : fits ty v = true) (hw : ws.set q0 (a, .inr (ci, fs.set k v)) = w') (kk : xAT p l e R s m args below meth c Q G A nL cells slots w' lv (pc + 3) st) : xAT p l e R s m args below meth c Q G A nL cells slots ws lv pc (v :: .ref a :: st) := by
  obtain ⟨C', T, N, ty0, h1, h2, h3, h4, h5, h6, h7, h8, h10⟩ := hf
  rw [h1] at ho
  have ho : C' = own := by simpa using ho
  exact fun H locs ls hP hD hS hL => va_putF C.1 C.2.1 C.2.2.2.2.1 h3 ty0 h5 h6 C.ow C.K hP hD hS q0 he h1 k h2 (C.w h4) (fun _ h9 => h9) h7 hin (h10.trans ho) h8 hn hfit hl hdg (fun H1 locs1 q1 q2 q3 => kk H1 locs1 ls (hw ▸ q1) (hw ▸ q2) q3 hL)
theorem xiald (C : CX p R s m args meth c cc nL own ret G tc A d) {a n : Nat} {f : Nat → Int32} {i : Int32} (q0 : Nat) (hdg : decode cc pc = .ok (.iaload, 1)) (he : ws[q0]? = some (a, .inl (tc 0, n, .inl f))) (hin : vp_in i n) (kk : xAT p l e R s m args below meth c Q G A nL cells slots ws lv (pc + 1) (.int (f i.toNatClampNeg) :: st)) : xAT p l e R s m args below meth c Q G A nL cells slots ws lv pc (.int i :: .ref a :: st) := fun H locs ls hP hD hS hl => va_iald C.1 C.2.1 C.K hP q0 0 he rfl hin hdg (kk H locs ls hP hD hS hl)
theorem xialdN (C : CX p R s m args meth c cc nL own ret G tc A d) {a n : Nat} {f : Nat → Int32} {i : Int32} (j : Nat) (q0 : Nat) (hdg : decode cc pc = .ok (.iaload, 1)) (he : ws[q0]? = some (a, .inl (tc 0, n, .inl f))) (hj : j < n) (hi : i = nI j) (hn : n < 2 ^ 31) (kk : xAT p l e R s m args below meth c Q G A nL cells slots ws lv (pc + 1) (.int (f j) :: st)) : xAT p l e R s m args below meth c Q G A nL cells slots ws lv pc (.int i :: .ref a :: st) := by
  subst hi
  refine xiald C q0 hdg he (vp_in_nI hj hn) ?_
  rw [nI_clamp (Nat.lt_trans hj hn)]
  exact kk
theorem xiast (C : CX p R s m args meth c cc nL own ret G tc A d) {a n : Nat} {f : Nat → Int32} {i : Int32} {x : Int32} (q0 : Nat) (w' : va_W) (hdg : decode cc pc = .ok (.iastore, 1)) (he : ws[q0]? = some (a, .inl (tc 0, n, .inl f))) (hin : vp_in i n) (hw : ws.set q0 (a, .inl (tc 0, n, .inl (upd f i.toNatClampNeg x))) = w') (kk : xAT p l e R s m args below meth c Q G A nL cells slots w' lv (pc + 1) st) : xAT p l e R s m args below meth c Q G A nL cells slots ws lv pc (.int x :: .int i :: .ref a :: st) := fun H locs ls hP hD hS hl => va_iast C.1 C.2.1 C.K hP hD hS q0 0 he rfl hin hdg (fun H1 locs1 q1 q2 q3 => kk H1 locs1 ls (hw ▸ q1) (hw ▸ q2) q3 hl)
theorem xiastN (C : CX p R s m args meth c cc nL own ret G tc A d) {a n : Nat} {f : Nat → Int32} {i : Int32} {x : Int32} (j : Nat) (q0 : Nat) (w' : va_W) (hdg : decode cc pc = .ok (.iastore, 1)) (he : ws[q0]? = some (a, .inl (tc 0, n, .inl f))) (hj : j < n) (hi : i = nI j) (hn : n < 2 ^ 31) (hw : ws.set q0 (a, .inl (tc 0, n, .inl (upd f j x))) = w') (kk : xAT p l e R s m args below meth c Q G A nL cells slots w' lv (pc + 1) st) : xAT p l e R s m args below meth c Q G A nL cells slots ws lv pc (.int x :: .int i :: .ref a :: st) := by
  subst hi
  refine xiast C q0 w' hdg he (vp_in_nI hj hn) ?_ kk
  rw [nI_clamp (Nat.lt_trans hj hn)]
  exact hw
theorem xialen (C : CX p R s m args meth c cc nL own ret G tc A d) {a n : Nat} {f : Nat → Int32} (q0 : Nat) (hdg : decode cc pc = .ok (.arraylength, 1)) (he : ws[q0]? = some (a, .inl (tc 0, n, .inl f))) (kk : xAT p l e R s m args below meth c Q G A nL cells slots ws lv (pc + 1) (.int (nI n) :: st)) : xAT p l e R s m args below meth c Q G A nL cells slots ws lv pc (.ref a :: st) := fun H locs ls hP hD hS hl => va_alen C.1 C.2.1 C.K hP q0 0 he rfl rfl hdg (kk H locs ls hP hD hS hl)
theorem xzald (C : CX p R s m args meth c cc nL own ret G tc A d) {a n : Nat} {f : Nat → Int32} {i : Int32} (q0 : Nat) (hdg : decode cc pc = .ok (.baload, 1)) (he : ws[q0]? = some (a, .inl (tc 2, n, .inl f))) (hin : vp_in i n) (kk : xAT p l e R s m args below meth c Q G A nL cells slots ws lv (pc + 1) (.int (f i.toNatClampNeg) :: st)) : xAT p l e R s m args below meth c Q G A nL cells slots ws lv pc (.int i :: .ref a :: st) := fun H locs ls hP hD hS hl => va_zald C.1 C.2.1 C.K hP q0 2 he rfl hin hdg (kk H locs ls hP hD hS hl)
theorem xzaldN (C : CX p R s m args meth c cc nL own ret G tc A d) {a n : Nat} {f : Nat → Int32} {i : Int32} (j : Nat) (q0 : Nat) (hdg : decode cc pc = .ok (.baload, 1)) (he : ws[q0]? = some (a, .inl (tc 2, n, .inl f))) (hj : j < n) (hi : i = nI j) (hn : n < 2 ^ 31) (kk : xAT p l e R s m args below meth c Q G A nL cells slots ws lv (pc + 1) (.int (f j) :: st)) : xAT p l e R s m args below meth c Q G A nL cells slots ws lv pc (.int i :: .ref a :: st) := by
  subst hi
  refine xzald C q0 hdg he (vp_in_nI hj hn) ?_
  rw [nI_clamp (Nat.lt_trans hj hn)]
  exact kk
theorem xzast (C : CX p R s m args meth c cc nL own ret G tc A d) {a n : Nat} {f : Nat → Int32} {i : Int32} {x : Int32} (q0 : Nat) (w' : va_W) (hdg : decode cc pc = .ok (.bastore, 1)) (he : ws[q0]? = some (a, .inl (tc 2, n, .inl f))) (hin : vp_in i n) (hw : ws.set q0 (a, .inl (tc 2, n, .inl (upd f i.toNatClampNeg (vp_nar .boolean x)))) = w') (kk : xAT p l e R s m args below meth c Q G A nL cells slots w' lv (pc + 1) st) : xAT p l e R s m args below meth c Q G A nL cells slots ws lv pc (.int x :: .int i :: .ref a :: st) := fun H locs ls hP hD hS hl => va_zast C.1 C.2.1 C.K hP hD hS q0 2 he rfl hin hdg (fun H1 locs1 q1 q2 q3 => kk H1 locs1 ls (hw ▸ q1) (hw ▸ q2) q3 hl)
theorem xzastN (C : CX p R s m args meth c cc nL own ret G tc A d) {a n : Nat} {f : Nat → Int32} {i : Int32} {x : Int32} (j : Nat) (q0 : Nat) (w' : va_W) (hdg : decode cc pc = .ok (.bastore, 1)) (he : ws[q0]? = some (a, .inl (tc 2, n, .inl f))) (hj : j < n) (hi : i = nI j) (hn : n < 2 ^ 31) (hw : ws.set q0 (a, .inl (tc 2, n, .inl (upd f j (vp_nar .boolean x)))) = w') (kk : xAT p l e R s m args below meth c Q G A nL cells slots w' lv (pc + 1) st) : xAT p l e R s m args below meth c Q G A nL cells slots ws lv pc (.int x :: .int i :: .ref a :: st) := by
  subst hi
  refine xzast C q0 w' hdg he (vp_in_nI hj hn) ?_ kk
  rw [nI_clamp (Nat.lt_trans hj hn)]
  exact hw
theorem xzalen (C : CX p R s m args meth c cc nL own ret G tc A d) {a n : Nat} {f : Nat → Int32} (q0 : Nat) (hdg : decode cc pc = .ok (.arraylength, 1)) (he : ws[q0]? = some (a, .inl (tc 2, n, .inl f))) (kk : xAT p l e R s m args below meth c Q G A nL cells slots ws lv (pc + 1) (.int (nI n) :: st)) : xAT p l e R s m args below meth c Q G A nL cells slots ws lv pc (.ref a :: st) := fun H locs ls hP hD hS hl => va_alen C.1 C.2.1 C.K hP q0 2 he rfl rfl hdg (kk H locs ls hP hD hS hl)
theorem xlald (C : CX p R s m args meth c cc nL own ret G tc A d) {a n : Nat} {f : Nat → Int64} {i : Int32} (q0 : Nat) (hdg : decode cc pc = .ok (.laload, 1)) (he : ws[q0]? = some (a, .inl (tc 1, n, .inr (.inl f)))) (hin : vp_in i n) (kk : xAT p l e R s m args below meth c Q G A nL cells slots ws lv (pc + 1) (.long (f i.toNatClampNeg) :: st)) : xAT p l e R s m args below meth c Q G A nL cells slots ws lv pc (.int i :: .ref a :: st) := fun H locs ls hP hD hS hl => va_lald C.1 C.2.1 C.K hP q0 1 he rfl hin hdg (kk H locs ls hP hD hS hl)
theorem xlaldN (C : CX p R s m args meth c cc nL own ret G tc A d) {a n : Nat} {f : Nat → Int64} {i : Int32} (j : Nat) (q0 : Nat) (hdg : decode cc pc = .ok (.laload, 1)) (he : ws[q0]? = some (a, .inl (tc 1, n, .inr (.inl f)))) (hj : j < n) (hi : i = nI j) (hn : n < 2 ^ 31) (kk : xAT p l e R s m args below meth c Q G A nL cells slots ws lv (pc + 1) (.long (f j) :: st)) : xAT p l e R s m args below meth c Q G A nL cells slots ws lv pc (.int i :: .ref a :: st) := by
  subst hi
  refine xlald C q0 hdg he (vp_in_nI hj hn) ?_
  rw [nI_clamp (Nat.lt_trans hj hn)]
  exact kk
theorem xlast (C : CX p R s m args meth c cc nL own ret G tc A d) {a n : Nat} {f : Nat → Int64} {i : Int32} {x : Int64} (q0 : Nat) (w' : va_W) (hdg : decode cc pc = .ok (.lastore, 1)) (he : ws[q0]? = some (a, .inl (tc 1, n, .inr (.inl f)))) (hin : vp_in i n) (hw : ws.set q0 (a, .inl (tc 1, n, .inr (.inl (vp_updL f i.toNatClampNeg x)))) = w') (kk : xAT p l e R s m args below meth c Q G A nL cells slots w' lv (pc + 1) st) : xAT p l e R s m args below meth c Q G A nL cells slots ws lv pc (.long x :: .int i :: .ref a :: st) := fun H locs ls hP hD hS hl => va_last C.1 C.2.1 C.K hP hD hS q0 1 he rfl hin hdg (fun H1 locs1 q1 q2 q3 => kk H1 locs1 ls (hw ▸ q1) (hw ▸ q2) q3 hl)
theorem xlastN (C : CX p R s m args meth c cc nL own ret G tc A d) {a n : Nat} {f : Nat → Int64} {i : Int32} {x : Int64} (j : Nat) (q0 : Nat) (w' : va_W) (hdg : decode cc pc = .ok (.lastore, 1)) (he : ws[q0]? = some (a, .inl (tc 1, n, .inr (.inl f)))) (hj : j < n) (hi : i = nI j) (hn : n < 2 ^ 31) (hw : ws.set q0 (a, .inl (tc 1, n, .inr (.inl (vp_updL f j x)))) = w') (kk : xAT p l e R s m args below meth c Q G A nL cells slots w' lv (pc + 1) st) : xAT p l e R s m args below meth c Q G A nL cells slots ws lv pc (.long x :: .int i :: .ref a :: st) := by
  subst hi
  refine xlast C q0 w' hdg he (vp_in_nI hj hn) ?_ kk
  rw [nI_clamp (Nat.lt_trans hj hn)]
  exact hw
theorem xlalen (C : CX p R s m args meth c cc nL own ret G tc A d) {a n : Nat} {f : Nat → Int64} (q0 : Nat) (hdg : decode cc pc = .ok (.arraylength, 1)) (he : ws[q0]? = some (a, .inl (tc 1, n, .inr (.inl f)))) (kk : xAT p l e R s m args below meth c Q G A nL cells slots ws lv (pc + 1) (.int (nI n) :: st)) : xAT p l e R s m args below meth c Q G A nL cells slots ws lv pc (.ref a :: st) := fun H locs ls hP hD hS hl => va_alen C.1 C.2.1 C.K hP q0 1 he rfl rfl hdg (kk H locs ls hP hD hS hl)
theorem xdald (C : CX p R s m args meth c cc nL own ret G tc A d) {a n : Nat} {f : Nat → UInt64} {i : Int32} (q0 : Nat) (hdg : decode cc pc = .ok (.daload, 1)) (he : ws[q0]? = some (a, .inl (tc 3, n, .inr (.inr (.inr (.inl f)))))) (hin : vp_in i n) (kk : xAT p l e R s m args below meth c Q G A nL cells slots ws lv (pc + 1) (.double (f i.toNatClampNeg) :: st)) : xAT p l e R s m args below meth c Q G A nL cells slots ws lv pc (.int i :: .ref a :: st) := fun H locs ls hP hD hS hl => va_dald C.1 C.2.1 C.K hP q0 3 he rfl hin hdg (kk H locs ls hP hD hS hl)
theorem xdaldN (C : CX p R s m args meth c cc nL own ret G tc A d) {a n : Nat} {f : Nat → UInt64} {i : Int32} (j : Nat) (q0 : Nat) (hdg : decode cc pc = .ok (.daload, 1)) (he : ws[q0]? = some (a, .inl (tc 3, n, .inr (.inr (.inr (.inl f)))))) (hj : j < n) (hi : i = nI j) (hn : n < 2 ^ 31) (kk : xAT p l e R s m args below meth c Q G A nL cells slots ws lv (pc + 1) (.double (f j) :: st)) : xAT p l e R s m args below meth c Q G A nL cells slots ws lv pc (.int i :: .ref a :: st) := by
  subst hi
  refine xdald C q0 hdg he (vp_in_nI hj hn) ?_
  rw [nI_clamp (Nat.lt_trans hj hn)]
  exact kk
theorem xdast (C : CX p R s m args meth c cc nL own ret G tc A d) {a n : Nat} {f : Nat → UInt64} {i : Int32} {x : UInt64} (q0 : Nat) (w' : va_W) (hdg : decode cc pc = .ok (.dastore, 1)) (he : ws[q0]? = some (a, .inl (tc 3, n, .inr (.inr (.inr (.inl f)))))) (hin : vp_in i n) (hw : ws.set q0 (a, .inl (tc 3, n, .inr (.inr (.inr (.inl (vf_upd f i.toNatClampNeg x)))))) = w') (kk : xAT p l e R s m args below meth c Q G A nL cells slots w' lv (pc + 1) st) : xAT p l e R s m args below meth c Q G A nL cells slots ws lv pc (.double x :: .int i :: .ref a :: st) := fun H locs ls hP hD hS hl => va_dast C.1 C.2.1 C.K hP hD hS q0 3 he rfl hin hdg (fun H1 locs1 q1 q2 q3 => kk H1 locs1 ls (hw ▸ q1) (hw ▸ q2) q3 hl)
theorem xdastN (C : CX p R s m args meth c cc nL own ret G tc A d) {a n : Nat} {f : Nat → UInt64} {i : Int32} {x : UInt64} (j : Nat) (q0 : Nat) (w' : va_W) (hdg : decode cc pc = .ok (.dastore, 1)) (he : ws[q0]? = some (a, .inl (tc 3, n, .inr (.inr (.inr (.inl f)))))) (hj : j < n) (hi : i = nI j) (hn : n < 2 ^ 31) (hw : ws.set q0 (a, .inl (tc 3, n, .inr (.inr (.inr (.inl (vf_upd f j x)))))) = w') (kk : xAT p l e R s m args below meth c Q G A nL cells slots w' lv (pc + 1) st) : xAT p l e R s m args below meth c Q G A nL cells slots ws lv pc (.double x :: .int i :: .ref a :: st) := by
  subst hi
  refine xdast C q0 w' hdg he (vp_in_nI hj hn) ?_ kk
  rw [nI_clamp (Nat.lt_trans hj hn)]
  exact hw
theorem xdalen (C : CX p R s m args meth c cc nL own ret G tc A d) {a n : Nat} {f : Nat → UInt64} (q0 : Nat) (hdg : decode cc pc = .ok (.arraylength, 1)) (he : ws[q0]? = some (a, .inl (tc 3, n, .inr (.inr (.inr (.inl f)))))) (kk : xAT p l e R s m args below meth c Q G A nL cells slots ws lv (pc + 1) (.int (nI n) :: st)) : xAT p l e R s m args below meth c Q G A nL cells slots ws lv pc (.ref a :: st) := fun H locs ls hP hD hS hl => va_alen C.1 C.2.1 C.K hP q0 3 he rfl rfl hdg (kk H locs ls hP hD hS hl)

/-- the world with a callee's cells put back in their places -/
def xrep (ws : va_W) : List Nat → va_W → va_W
  | i :: is, c :: cs => xrep (ws.set i c) is cs
  | _, _ => ws
theorem xrep_get : ∀ (is : List Nat) (cs ws : va_W) (k : Nat) (q : Nat × va_E), (xrep ws is cs)[k]? = some q → (∃ j : Nat, is[j]? = some k ∧ cs[j]? = some q) ∨ (ws[k]? = some q ∧ ∀ j : Nat, is[j]? = some k → cs[j]? = none)
  | [], cs, ws, k, q, h => Or.inr ⟨by cases cs <;> exact h, fun j hj => by simp at hj⟩
  | i :: is, [], ws, k, q, h => Or.inr ⟨h, fun j _ => by simp⟩
  | i :: is, c :: cs, ws, k, q, h => by
    rcases xrep_get is cs (ws.set i c) k q h with ⟨j, h1, h2⟩ | ⟨h1, h2⟩
    · exact Or.inl ⟨j + 1, h1, h2⟩
    · by_cases e : i = k
      · subst e
        rw [List.getElem?_set_self'] at h1
        cases hl : ws[i]? with
        | none => rw [hl] at h1; simp at h1
        | some z =>
          rw [hl] at h1
          exact Or.inl ⟨0, rfl, by simpa using h1⟩
      · rw [List.getElem?_set_ne e] at h1
        refine Or.inr ⟨h1, fun j hj => ?_⟩
        cases j with
        | zero => exact absurd (by simpa using hj) e
        | succ j => exact h2 j hj
theorem xat {ws w : va_W} {is : List Nat} (hs : is.map (fun i => ws[i]?) = w.map some) (k : Nat) (q : Nat × va_E) (hq : w[k]? = some q) : ∃ i, is[k]? = some i ∧ ws[i]? = some q := by
  have h1 : (is.map (fun i => ws[i]?))[k]? = some (some q) := by rw [hs, List.getElem?_map, hq]; rfl
  rw [List.getElem?_map] at h1
  cases hi : is[k]? with
  | none => rw [hi] at h1; cases h1
  | some i => rw [hi] at h1; exact ⟨i, rfl, Option.some.inj h1⟩
theorem xcut_P {ws w0 : va_W} {H : Heap} {is : List Nat} (hC : is.map (fun i => ws[i]?) = w0.map some) (hP : va_P G vwCl ws H) : va_P G vwCl w0 H := fun k q hq => by
  obtain ⟨i, -, h⟩ := xat hC k q hq
  exact hP i q h
theorem xjoin {A0 : Nat → Prop} {ws w0 w1 : va_W} {H H1 : Heap} (hP : va_P G vwCl ws H) (hD : va_D A0 ws) (is : List Nat) (hC : is.map (fun i => ws[i]?) = w0.map some) (ha : w1.map Prod.fst = w0.map Prod.fst)
    (hk : ∀ q : Nat, q < H.size → ¬ va_A w0 H.size q → H1[q]? = H[q]?) (hF : ∀ q, va_A w0 H.size q → A0 q) (hP1 : va_P G vwCl w1 H1) (hD1 : va_D (va_A w0 H.size) w1) : va_P G vwCl (xrep ws is w1) H1 ∧ va_D A0 (xrep ws is w1) := by
  have hlen : is.length = w1.length := by
    have h1 := congrArg List.length hC
    have h2 := congrArg List.length ha
    simp only [List.length_map] at h1 h2
    omega
  have hcase : ∀ (k : Nat) (q : Nat × va_E), (xrep ws is w1)[k]? = some q → (∃ j : Nat, is[j]? = some k ∧ w1[j]? = some q) ∨ (ws[k]? = some q ∧ ∀ j : Nat, is[j]? ≠ some k) := by
    intro k q h
    rcases xrep_get is w1 ws k q h with h | ⟨h1, h2⟩
    · exact Or.inl h
    · refine Or.inr ⟨h1, fun j hj => ?_⟩
      have h3 := h2 j hj
      have h4 := (List.getElem?_eq_some_iff.mp hj).1
      rw [List.getElem?_eq_none_iff] at h3
      omega
  have hadr : ∀ (k : Nat) (q : Nat × va_E), (xrep ws is w1)[k]? = some q → ∃ q', ws[k]? = some q' ∧ q'.1 = q.1 := by
    intro k q h
    rcases hcase k q h with ⟨j, h1, h2⟩ | ⟨h1, -⟩
    · have h3 : (w1.map Prod.fst)[j]? = some q.1 := by rw [List.getElem?_map, h2]; rfl
      rw [ha, List.getElem?_map] at h3
      cases h5 : w0[j]? with
      | none => rw [h5] at h3; cases h3
      | some q0 =>
        rw [h5] at h3
        obtain ⟨i, h6, h7⟩ := xat hC j q0 h5
        rw [h1] at h6
        cases h6
        exact ⟨q0, h7, Option.some.inj h3⟩
    · exact ⟨q, h1, rfl⟩
  refine ⟨fun k q h => ?_, fun i j x y hx hy hxy => ?_, fun k q h => ?_⟩
  · rcases hcase k q h with ⟨j, -, h2⟩ | ⟨h1, h2⟩
    · exact hP1 j q h2
    · have hl := (hP k q h1).lt
      refine (hP k q h1).kept (hk q.1 hl ?_)
      rintro (⟨k2, e2, h3⟩ | h3)
      · obtain ⟨i, h4, h5⟩ := xat hC k2 (q.1, e2) h3
        have := hD.1 k i q (q.1, e2) h1 h5 rfl
        subst this
        exact h2 k2 h4
      · omega
  · obtain ⟨x', hx1, hx2⟩ := hadr i x hx
    obtain ⟨y', hy1, hy2⟩ := hadr j y hy
    exact hD.1 i j x' y' hx1 hy1 (by rw [hx2, hy2, hxy])
  · rcases hcase k q h with ⟨j, -, h2⟩ | ⟨h1, -⟩
    · exact hF _ (hD1.2 j q h2)
    · exact hD.2 k q h1
theorem xrep_self : ∀ (is : List Nat) (w0 ws : va_W), is.map (fun i => ws[i]?) = w0.map some → xrep ws is w0 = ws
  | [], w0, ws, _ => by cases w0 <;> rfl
  | i :: is, [], ws, h => rfl
  | i :: is, c :: cs, ws, h => by
    simp only [List.map_cons, List.cons.injEq] at h
    have e : ws.set i c = ws := by
      apply List.ext_getElem?
      intro n
      by_cases hn : i = n
      · subst hn
        rw [List.getElem?_set_self', h.1]
        rfl
      · rw [List.getElem?_set_ne hn]
    show xrep (ws.set i c) is cs = ws
    rw [e]
    exact xrep_self is cs ws h.2
/-- a method as it is called: its words, its number of arguments, the class of its object -/
def xMv (y : MethodName) (cy : ByteArray) (ny : Nat) (ry : Option FieldType) (n ci : Nat) : Prop := Cond.code y cy ny ry ∈ wsL_law ∧ Cond.initialized y.cls ∈ wsL_law ∧ Cond.instanceMethod y ∈ wsL_law ∧ Cond.selects y.cls y y ∈ wsL_law ∧ (y.cls ≠ "java/lang/invoke/MethodHandle" ∧ y.cls ≠ "java/lang/invoke/VarHandle" ∧ (parseMethodDescriptor y.desc).map (fun d => d.parameters.length) = some n) ∧ ny ≤ 20 ∧ ∃ (T : u_T) (N : Nat), vwCl[ci]? = some (y.cls, T, N)
def xMs (y : MethodName) (cy : ByteArray) (ny : Nat) (ry : Option FieldType) (n : Nat) : Prop := Cond.code y cy ny ry ∈ wsL_law ∧ Cond.initialized y.cls ∈ wsL_law ∧ Cond.static y ∈ wsL_law ∧ (y.cls ≠ "java/lang/invoke/MethodHandle" ∧ y.cls ≠ "java/lang/invoke/VarHandle" ∧ (parseMethodDescriptor y.desc).map (fun d => d.parameters.length) = some n) ∧ ny ≤ 20
theorem xgood {L : List Cond} (h : ∀ w ∈ L, w ∈ wsL_law) : GoodIn wsL_law L := fun w hw => wsL_good w (h w hw)
theorem xw_in {y : MethodName} {cy : ByteArray} {ny : Nat} {ry : Option FieldType} (h : Cond.code y cy ny ry ∈ wsL_law) : ∀ w ∈ xw y cy ny ry, w ∈ wsL_law := fun w hw => by
  rcases List.mem_cons.mp hw with rfl | hw
  · exact h
  · exact hw
theorem xcwV (C : CX p R s m args meth c cc nL own ret G tc A d) {y : MethodName} {cy : ByteArray} {ny n ci idx d' mc ms : Nat} {ry : Option FieldType} (hm : xMv y cy ny ry n ci) (hk : Cond.methodLink own idx y ∈ wsL_law) (hd : d' + 1 ≤ d) : CallW R s args own y.cls idx y cy ny ry (xw y cy ny ry) (xR d' mc ms) mc ms n := by
  obtain ⟨h1, h2, h3, h4, h5, h6, -⟩ := hm
  refine cwV n C.2.2.2.2.1 (xgood fun w hw => ?_) rfl rfl rfl ⟨rfl, h5⟩ ⟨?_, ?_⟩
  · unfold wsV at hw
    rcases List.mem_append.mp hw with hw | hw
    · simp only [List.mem_cons, List.mem_nil_iff, or_false] at hw
      rcases hw with rfl | rfl | rfl | rfl
      · exact hk
      · exact h3
      · exact h4
      · exact h2
    · exact xw_in h1 w hw
  · have := C.room.1
    show d' + 6 + 1 ≤ R.frames
    omega
  · have := C.room.2
    show 8 + (ny + 11) + (40 * d' + 120) ≤ R.locals
    omega
theorem xcwB (C : CX p R s m args meth c cc nL own ret G tc A d) {y : MethodName} {cy : ByteArray} {ny n idx d' mc ms : Nat} {ry : Option FieldType} (h1 : Cond.code y cy ny ry ∈ wsL_law) (h2 : Cond.initialized y.cls ∈ wsL_law) (h5 : y.cls ≠ "java/lang/invoke/MethodHandle" ∧ y.cls ≠ "java/lang/invoke/VarHandle" ∧ (parseMethodDescriptor y.desc).map (fun d => d.parameters.length) = some n) (h6 : ny ≤ 20) (hk : Cond.methodLink own idx y ∈ wsL_law) (hd : d' + 1 ≤ d) : CallB R s args own idx y cy ny ry (xw y cy ny ry) (xR d' mc ms) mc ms n := by
  refine callB_of n C.2.2.2.2.1 (xgood (xw_in h1)) rfl rfl rfl (C.w h2) (C.w hk) h5 ⟨?_, ?_⟩
  · have := C.room.1
    show d' + 6 + 1 ≤ R.frames
    omega
  · have := C.room.2
    show 8 + (ny + 11) + (40 * d' + 120) ≤ R.locals
    omega
theorem xcwN (C : CX p R s m args meth c cc nL own ret G tc A d) {y : MethodName} {cy : ByteArray} {ny n idx d' : Nat} {ry : Option FieldType} {host : String} (hm : xMs y cy ny ry n) (hk : va_Nw (.methodLinkNest own idx y host) s) (hd : d' + 1 ≤ d) : va_CN R s args own idx y host cy ny ry (xw y cy ny ry) (xR d' 0 0) 0 0 n := by
  obtain ⟨h1, h2, h3, h5, h6⟩ := hm
  refine va_cnB n C.2.2.2.2.1 (xgood (xw_in h1)) rfl rfl rfl hk (C.w h2) h5 ⟨?_, ?_⟩
  · have := C.room.1
    show d' + 6 + 1 ≤ R.frames
    omega
  · have := C.room.2
    show 8 + (ny + 11) + (40 * d' + 120) ≤ R.locals
    omega
theorem xprePre (C : CX p R s m args meth c cc nL own ret G tc A d) {H : Heap} {locs : List Loc} {av : List Value} {w0 : va_W} {is : List Nat} (hP : va_P G vwCl ws H) (hD : va_D A ws) (hS : va_S A s.heap H locs) (hC : is.map (fun i => ws[i]?) = w0.map some) (hnd : va_nd is = true) : ∀ U : State, U.heap = H → s.WarmedH U.vm → xPre G tc av w0 H.size av.toArray U := fun U hU hW =>
  ⟨rfl, by rw [hU], by rw [hU]; exact xcut_P hC hP, (hD.sub is hnd hC).weaken (fun _ _ _ _ => trivial), xE.warm hW C.E, by
    rw [hU]
    exact ((C.Z.kept hS.2.1).narrow (va_free hD hS C.al is hC)).moved hW.alike⟩
theorem xcallVi (C : CX p R s m args meth c cc nL own ret G tc A d) {y : MethodName} {cy : ByteArray} {ny n ci idx d' a : Nat} {ry : Option FieldType} {As : List Value} {fs : List Value} {w0 w1 : va_W} {r : Int32} (hm : xMv y cy ny ry n ci) (hk : Cond.methodLink own idx y ∈ wsL_law) (M : kI l y (xw y cy ny ry) d' G tc (.ref a :: As) w0 r w1) (hdg : decode cc pc = .ok (.invokevirtual idx, 3)) (q0 : Nat) (he : ws[q0]? = some (a, .inr (ci, fs))) (is : List Nat) (w' : va_W) {st0 : List Value} (hC : is.map (fun i => ws[i]?) = w0.map some) (hnd : va_nd is = true) (ha : w1.map Prod.fst = w0.map Prod.fst) (hw : xrep ws is w1 = w') (hn : As.length = n) (hd : d' + 1 ≤ d) (hs : st0 = As.reverse ++ .ref a :: st) (hcat : (st.map fun v => v.category).sum ≤ 8) (hcs : cells ≤ R.cells ∧ slots ≤ R.slots) (kk : xAT p l e R s m args below meth c Q G A nL cells slots w' lv (pc + 3) (.int r :: st)) : xAT p l e R s m args below meth c Q G A nL cells slots ws lv pc st0 := by
  intro H locs ls hP hD hS hl
  have hF := va_free hD hS C.al is hC
  obtain ⟨T9, N9, hc9⟩ := hm.2.2.2.2.2.2
  have hrec := va_recv C.K hP hc9 he
  refine va_calli (va_runV (As := As) (rest := st) C.call (M H.size) (xcwV C hm hk hd) ⟨xPre_blind, hrec, xprePre C hP hD hS hC hnd⟩ rfl hn (hl.1) hs (lv_room hcat) hdg ⟨by rw [Nat.add_zero]; exact hcs.1, by rw [Nat.add_zero]; exact hcs.2⟩) hS (fun q _ h => hF q h) hF (fun r9 u t H1 locs1 ht hvm hw9 hB hz1 hk1 hS1 => ?_)
  · subst hw9
    obtain ⟨hP1, hD1⟩ := hB
    rw [ht] at hP1
    obtain ⟨hP2, hD2⟩ := xjoin hP hD is hC ha hk1 hF hP1 hD1
    rw [hw] at hP2 hD2
    exact kk H1 locs1 ls hP2 hD2 hS1 hl
theorem xcallVi0 (C : CX p R s m args meth c cc nL own ret G tc A d) {y : MethodName} {cy : ByteArray} {ny n ci idx d' a : Nat} {ry : Option FieldType} {As : List Value} {fs : List Value} {w0 : va_W} {r : Int32} (hm : xMv y cy ny ry n ci) (hk : Cond.methodLink own idx y ∈ wsL_law) (M : kI l y (xw y cy ny ry) d' G tc (.ref a :: As) w0 r w0) (hdg : decode cc pc = .ok (.invokevirtual idx, 3)) (q0 : Nat) (he : ws[q0]? = some (a, .inr (ci, fs))) (is : List Nat) {st0 : List Value} (hC : is.map (fun i => ws[i]?) = w0.map some) (hnd : va_nd is = true) (hn : As.length = n) (hd : d' + 1 ≤ d) (hs : st0 = As.reverse ++ .ref a :: st) (hcat : (st.map fun v => v.category).sum ≤ 8) (hcs : cells ≤ R.cells ∧ slots ≤ R.slots) (kk : xAT p l e R s m args below meth c Q G A nL cells slots ws lv (pc + 3) (.int r :: st)) : xAT p l e R s m args below meth c Q G A nL cells slots ws lv pc st0 := xcallVi C hm hk M hdg q0 he is ws hC hnd rfl (xrep_self is w0 ws hC) hn hd hs hcat hcs kk
theorem xcallSi (C : CX p R s m args meth c cc nL own ret G tc A d) {y : MethodName} {cy : ByteArray} {ny n idx d' : Nat} {ry : Option FieldType} {As : List Value} {w0 w1 : va_W} {r : Int32} (hm : xMs y cy ny ry n) (hk : Cond.methodLink own idx y ∈ wsL_law) (M : kI l y (xw y cy ny ry) d' G tc As w0 r w1) (hdg : decode cc pc = .ok (.invokestatic idx, 3)) (is : List Nat) (w' : va_W) {st0 : List Value} (hC : is.map (fun i => ws[i]?) = w0.map some) (hnd : va_nd is = true) (ha : w1.map Prod.fst = w0.map Prod.fst) (hw : xrep ws is w1 = w') (hn : As.length = n) (hd : d' + 1 ≤ d) (hs : st0 = As.reverse ++ st) (hcat : (st.map fun v => v.category).sum ≤ 8) (hcs : cells ≤ R.cells ∧ slots ≤ R.slots) (kk : xAT p l e R s m args below meth c Q G A nL cells slots w' lv (pc + 3) (.int r :: st)) : xAT p l e R s m args below meth c Q G A nL cells slots ws lv pc st0 := by
  intro H locs ls hP hD hS hl
  have hF := va_free hD hS C.al is hC
  refine va_calli (va_runS (As := As) (rest := st) C.call (M H.size) ⟨xcwB C hm.1 hm.2.1 hm.2.2.2.1 hm.2.2.2.2 hk hd, C.w hm.2.2.1⟩ ⟨xPre_blind, xprePre C hP hD hS hC hnd⟩ rfl hn (hl.1) hs (lv_room hcat) hdg ⟨by rw [Nat.add_zero]; exact hcs.1, by rw [Nat.add_zero]; exact hcs.2⟩) hS (fun q _ h => hF q h) hF (fun r9 u t H1 locs1 ht hvm hw9 hB hz1 hk1 hS1 => ?_)
  · subst hw9
    obtain ⟨hP1, hD1⟩ := hB
    rw [ht] at hP1
    obtain ⟨hP2, hD2⟩ := xjoin hP hD is hC ha hk1 hF hP1 hD1
    rw [hw] at hP2 hD2
    exact kk H1 locs1 ls hP2 hD2 hS1 hl
theorem xcallSi0 (C : CX p R s m args meth c cc nL own ret G tc A d) {y : MethodName} {cy : ByteArray} {ny n idx d' : Nat} {ry : Option FieldType} {As : List Value} {w0 : va_W} {r : Int32} (hm : xMs y cy ny ry n) (hk : Cond.methodLink own idx y ∈ wsL_law) (M : kI l y (xw y cy ny ry) d' G tc As w0 r w0) (hdg : decode cc pc = .ok (.invokestatic idx, 3)) (is : List Nat) {st0 : List Value} (hC : is.map (fun i => ws[i]?) = w0.map some) (hnd : va_nd is = true) (hn : As.length = n) (hd : d' + 1 ≤ d) (hs : st0 = As.reverse ++ st) (hcat : (st.map fun v => v.category).sum ≤ 8) (hcs : cells ≤ R.cells ∧ slots ≤ R.slots) (kk : xAT p l e R s m args below meth c Q G A nL cells slots ws lv (pc + 3) (.int r :: st)) : xAT p l e R s m args below meth c Q G A nL cells slots ws lv pc st0 := xcallSi C hm hk M hdg is ws hC hnd rfl (xrep_self is w0 ws hC) hn hd hs hcat hcs kk
theorem xcallNi (C : CX p R s m args meth c cc nL own ret G tc A d) {y : MethodName} {cy : ByteArray} {ny n idx d' : Nat} {ry : Option FieldType} {As : List Value} {w0 w1 : va_W} {host : String} {r : Int32} (hm : xMs y cy ny ry n) (hk : va_Nw (.methodLinkNest own idx y host) s) (M : kI l y (xw y cy ny ry) d' G tc As w0 r w1) (hdg : decode cc pc = .ok (.invokestatic idx, 3)) (is : List Nat) (w' : va_W) {st0 : List Value} (hC : is.map (fun i => ws[i]?) = w0.map some) (hnd : va_nd is = true) (ha : w1.map Prod.fst = w0.map Prod.fst) (hw : xrep ws is w1 = w') (hn : As.length = n) (hd : d' + 1 ≤ d) (hs : st0 = As.reverse ++ st) (hcat : (st.map fun v => v.category).sum ≤ 8) (hcs : cells ≤ R.cells ∧ slots ≤ R.slots) (kk : xAT p l e R s m args below meth c Q G A nL cells slots w' lv (pc + 3) (.int r :: st)) : xAT p l e R s m args below meth c Q G A nL cells slots ws lv pc st0 := by
  intro H locs ls hP hD hS hl
  have hF := va_free hD hS C.al is hC
  refine va_calli (va_runSN (As := As) (rest := st) C.call (M H.size) ⟨xcwN C hm hk hd, C.w hm.2.2.1, trivial⟩ ⟨xPre_blind, xprePre C hP hD hS hC hnd⟩ rfl hn (hl.1) hs (lv_room hcat) hdg ⟨by rw [Nat.add_zero]; exact hcs.1, by rw [Nat.add_zero]; exact hcs.2⟩) hS (fun q _ h => hF q h) hF (fun r9 u t H1 locs1 ht hvm hw9 hB hz1 hk1 hS1 => ?_)
  · subst hw9
    obtain ⟨hP1, hD1⟩ := hB
    rw [ht] at hP1
    obtain ⟨hP2, hD2⟩ := xjoin hP hD is hC ha hk1 hF hP1 hD1
    rw [hw] at hP2 hD2
    exact kk H1 locs1 ls hP2 hD2 hS1 hl
theorem xcallNi0 (C : CX p R s m args meth c cc nL own ret G tc A d) {y : MethodName} {cy : ByteArray} {ny n idx d' : Nat} {ry : Option FieldType} {As : List Value} {w0 : va_W} {host : String} {r : Int32} (hm : xMs y cy ny ry n) (hk : va_Nw (.methodLinkNest own idx y host) s) (M : kI l y (xw y cy ny ry) d' G tc As w0 r w0) (hdg : decode cc pc = .ok (.invokestatic idx, 3)) (is : List Nat) {st0 : List Value} (hC : is.map (fun i => ws[i]?) = w0.map some) (hnd : va_nd is = true) (hn : As.length = n) (hd : d' + 1 ≤ d) (hs : st0 = As.reverse ++ st) (hcat : (st.map fun v => v.category).sum ≤ 8) (hcs : cells ≤ R.cells ∧ slots ≤ R.slots) (kk : xAT p l e R s m args below meth c Q G A nL cells slots ws lv (pc + 3) (.int r :: st)) : xAT p l e R s m args below meth c Q G A nL cells slots ws lv pc st0 := xcallNi C hm hk M hdg is ws hC hnd rfl (xrep_self is w0 ws hC) hn hd hs hcat hcs kk
theorem xcallVl (C : CX p R s m args meth c cc nL own ret G tc A d) {y : MethodName} {cy : ByteArray} {ny n ci idx d' a : Nat} {ry : Option FieldType} {As : List Value} {fs : List Value} {w0 w1 : va_W} {r : Int64} (hm : xMv y cy ny ry n ci) (hk : Cond.methodLink own idx y ∈ wsL_law) (M : kL l y (xw y cy ny ry) d' G tc (.ref a :: As) w0 r w1) (hdg : decode cc pc = .ok (.invokevirtual idx, 3)) (q0 : Nat) (he : ws[q0]? = some (a, .inr (ci, fs))) (is : List Nat) (w' : va_W) {st0 : List Value} (hC : is.map (fun i => ws[i]?) = w0.map some) (hnd : va_nd is = true) (ha : w1.map Prod.fst = w0.map Prod.fst) (hw : xrep ws is w1 = w') (hn : As.length = n) (hd : d' + 1 ≤ d) (hs : st0 = As.reverse ++ .ref a :: st) (hcat : (st.map fun v => v.category).sum ≤ 8) (hcs : cells ≤ R.cells ∧ slots ≤ R.slots) (kk : xAT p l e R s m args below meth c Q G A nL cells slots w' lv (pc + 3) (.long r :: st)) : xAT p l e R s m args below meth c Q G A nL cells slots ws lv pc st0 := by
  intro H locs ls hP hD hS hl
  have hF := va_free hD hS C.al is hC
  obtain ⟨T9, N9, hc9⟩ := hm.2.2.2.2.2.2
  have hrec := va_recv C.K hP hc9 he
  refine va_calll (va_runV (As := As) (rest := st) C.call (M H.size) (xcwV C hm hk hd) ⟨xPre_blind, hrec, xprePre C hP hD hS hC hnd⟩ rfl hn (hl.1) hs (lv_room hcat) hdg ⟨by rw [Nat.add_zero]; exact hcs.1, by rw [Nat.add_zero]; exact hcs.2⟩) hS (fun q _ h => hF q h) hF (fun r9 u t H1 locs1 ht hvm hw9 hB hz1 hk1 hS1 => ?_)
  · subst hw9
    obtain ⟨hP1, hD1⟩ := hB
    rw [ht] at hP1
    obtain ⟨hP2, hD2⟩ := xjoin hP hD is hC ha hk1 hF hP1 hD1
    rw [hw] at hP2 hD2
    exact kk H1 locs1 ls hP2 hD2 hS1 hl
theorem xcallVl0 (C : CX p R s m args meth c cc nL own ret G tc A d) {y : MethodName} {cy : ByteArray} {ny n ci idx d' a : Nat} {ry : Option FieldType} {As : List Value} {fs : List Value} {w0 : va_W} {r : Int64} (hm : xMv y cy ny ry n ci) (hk : Cond.methodLink own idx y ∈ wsL_law) (M : kL l y (xw y cy ny ry) d' G tc (.ref a :: As) w0 r w0) (hdg : decode cc pc = .ok (.invokevirtual idx, 3)) (q0 : Nat) (he : ws[q0]? = some (a, .inr (ci, fs))) (is : List Nat) {st0 : List Value} (hC : is.map (fun i => ws[i]?) = w0.map some) (hnd : va_nd is = true) (hn : As.length = n) (hd : d' + 1 ≤ d) (hs : st0 = As.reverse ++ .ref a :: st) (hcat : (st.map fun v => v.category).sum ≤ 8) (hcs : cells ≤ R.cells ∧ slots ≤ R.slots) (kk : xAT p l e R s m args below meth c Q G A nL cells slots ws lv (pc + 3) (.long r :: st)) : xAT p l e R s m args below meth c Q G A nL cells slots ws lv pc st0 := xcallVl C hm hk M hdg q0 he is ws hC hnd rfl (xrep_self is w0 ws hC) hn hd hs hcat hcs kk
theorem xcallSl (C : CX p R s m args meth c cc nL own ret G tc A d) {y : MethodName} {cy : ByteArray} {ny n idx d' : Nat} {ry : Option FieldType} {As : List Value} {w0 w1 : va_W} {r : Int64} (hm : xMs y cy ny ry n) (hk : Cond.methodLink own idx y ∈ wsL_law) (M : kL l y (xw y cy ny ry) d' G tc As w0 r w1) (hdg : decode cc pc = .ok (.invokestatic idx, 3)) (is : List Nat) (w' : va_W) {st0 : List Value} (hC : is.map (fun i => ws[i]?) = w0.map some) (hnd : va_nd is = true) (ha : w1.map Prod.fst = w0.map Prod.fst) (hw : xrep ws is w1 = w') (hn : As.length = n) (hd : d' + 1 ≤ d) (hs : st0 = As.reverse ++ st) (hcat : (st.map fun v => v.category).sum ≤ 8) (hcs : cells ≤ R.cells ∧ slots ≤ R.slots) (kk : xAT p l e R s m args below meth c Q G A nL cells slots w' lv (pc + 3) (.long r :: st)) : xAT p l e R s m args below meth c Q G A nL cells slots ws lv pc st0 := by
  intro H locs ls hP hD hS hl
  have hF := va_free hD hS C.al is hC
  refine va_calll (va_runS (As := As) (rest := st) C.call (M H.size) ⟨xcwB C hm.1 hm.2.1 hm.2.2.2.1 hm.2.2.2.2 hk hd, C.w hm.2.2.1⟩ ⟨xPre_blind, xprePre C hP hD hS hC hnd⟩ rfl hn (hl.1) hs (lv_room hcat) hdg ⟨by rw [Nat.add_zero]; exact hcs.1, by rw [Nat.add_zero]; exact hcs.2⟩) hS (fun q _ h => hF q h) hF (fun r9 u t H1 locs1 ht hvm hw9 hB hz1 hk1 hS1 => ?_)
  · subst hw9
    obtain ⟨hP1, hD1⟩ := hB
    rw [ht] at hP1
    obtain ⟨hP2, hD2⟩ := xjoin hP hD is hC ha hk1 hF hP1 hD1
    rw [hw] at hP2 hD2
    exact kk H1 locs1 ls hP2 hD2 hS1 hl
theorem xcallSl0 (C : CX p R s m args meth c cc nL own ret G tc A d) {y : MethodName} {cy : ByteArray} {ny n idx d' : Nat} {ry : Option FieldType} {As : List Value} {w0 : va_W} {r : Int64} (hm : xMs y cy ny ry n) (hk : Cond.methodLink own idx y ∈ wsL_law) (M : kL l y (xw y cy ny ry) d' G tc As w0 r w0) (hdg : decode cc pc = .ok (.invokestatic idx, 3)) (is : List Nat) {st0 : List Value} (hC : is.map (fun i => ws[i]?) = w0.map some) (hnd : va_nd is = true) (hn : As.length = n) (hd : d' + 1 ≤ d) (hs : st0 = As.reverse ++ st) (hcat : (st.map fun v => v.category).sum ≤ 8) (hcs : cells ≤ R.cells ∧ slots ≤ R.slots) (kk : xAT p l e R s m args below meth c Q G A nL cells slots ws lv (pc + 3) (.long r :: st)) : xAT p l e R s m args below meth c Q G A nL cells slots ws lv pc st0 := xcallSl C hm hk M hdg is ws hC hnd rfl (xrep_self is w0 ws hC) hn hd hs hcat hcs kk
theorem xcallNl (C : CX p R s m args meth c cc nL own ret G tc A d) {y : MethodName} {cy : ByteArray} {ny n idx d' : Nat} {ry : Option FieldType} {As : List Value} {w0 w1 : va_W} {host : String} {r : Int64} (hm : xMs y cy ny ry n) (hk : va_Nw (.methodLinkNest own idx y host) s) (M : kL l y (xw y cy ny ry) d' G tc As w0 r w1) (hdg : decode cc pc = .ok (.invokestatic idx, 3)) (is : List Nat) (w' : va_W) {st0 : List Value} (hC : is.map (fun i => ws[i]?) = w0.map some) (hnd : va_nd is = true) (ha : w1.map Prod.fst = w0.map Prod.fst) (hw : xrep ws is w1 = w') (hn : As.length = n) (hd : d' + 1 ≤ d) (hs : st0 = As.reverse ++ st) (hcat : (st.map fun v => v.category).sum ≤ 8) (hcs : cells ≤ R.cells ∧ slots ≤ R.slots) (kk : xAT p l e R s m args below meth c Q G A nL cells slots w' lv (pc + 3) (.long r :: st)) : xAT p l e R s m args below meth c Q G A nL cells slots ws lv pc st0 := by
  intro H locs ls hP hD hS hl
  have hF := va_free hD hS C.al is hC
  refine va_calll (va_runSN (As := As) (rest := st) C.call (M H.size) ⟨xcwN C hm hk hd, C.w hm.2.2.1, trivial⟩ ⟨xPre_blind, xprePre C hP hD hS hC hnd⟩ rfl hn (hl.1) hs (lv_room hcat) hdg ⟨by rw [Nat.add_zero]; exact hcs.1, by rw [Nat.add_zero]; exact hcs.2⟩) hS (fun q _ h => hF q h) hF (fun r9 u t H1 locs1 ht hvm hw9 hB hz1 hk1 hS1 => ?_)
  · subst hw9
    obtain ⟨hP1, hD1⟩ := hB
    rw [ht] at hP1
    obtain ⟨hP2, hD2⟩ := xjoin hP hD is hC ha hk1 hF hP1 hD1
    rw [hw] at hP2 hD2
    exact kk H1 locs1 ls hP2 hD2 hS1 hl
theorem xcallNl0 (C : CX p R s m args meth c cc nL own ret G tc A d) {y : MethodName} {cy : ByteArray} {ny n idx d' : Nat} {ry : Option FieldType} {As : List Value} {w0 : va_W} {host : String} {r : Int64} (hm : xMs y cy ny ry n) (hk : va_Nw (.methodLinkNest own idx y host) s) (M : kL l y (xw y cy ny ry) d' G tc As w0 r w0) (hdg : decode cc pc = .ok (.invokestatic idx, 3)) (is : List Nat) {st0 : List Value} (hC : is.map (fun i => ws[i]?) = w0.map some) (hnd : va_nd is = true) (hn : As.length = n) (hd : d' + 1 ≤ d) (hs : st0 = As.reverse ++ st) (hcat : (st.map fun v => v.category).sum ≤ 8) (hcs : cells ≤ R.cells ∧ slots ≤ R.slots) (kk : xAT p l e R s m args below meth c Q G A nL cells slots ws lv (pc + 3) (.long r :: st)) : xAT p l e R s m args below meth c Q G A nL cells slots ws lv pc st0 := xcallNl C hm hk M hdg is ws hC hnd rfl (xrep_self is w0 ws hC) hn hd hs hcat hcs kk
theorem xcallVd (C : CX p R s m args meth c cc nL own ret G tc A d) {y : MethodName} {cy : ByteArray} {ny n ci idx d' a : Nat} {ry : Option FieldType} {As : List Value} {fs : List Value} {w0 w1 : va_W} {r : UInt64} (hm : xMv y cy ny ry n ci) (hk : Cond.methodLink own idx y ∈ wsL_law) (M : kD l y (xw y cy ny ry) d' G tc (.ref a :: As) w0 r w1) (hdg : decode cc pc = .ok (.invokevirtual idx, 3)) (q0 : Nat) (he : ws[q0]? = some (a, .inr (ci, fs))) (is : List Nat) (w' : va_W) {st0 : List Value} (hC : is.map (fun i => ws[i]?) = w0.map some) (hnd : va_nd is = true) (ha : w1.map Prod.fst = w0.map Prod.fst) (hw : xrep ws is w1 = w') (hn : As.length = n) (hd : d' + 1 ≤ d) (hs : st0 = As.reverse ++ .ref a :: st) (hcat : (st.map fun v => v.category).sum ≤ 8) (hcs : cells ≤ R.cells ∧ slots ≤ R.slots) (kk : xAT p l e R s m args below meth c Q G A nL cells slots w' lv (pc + 3) (.double r :: st)) : xAT p l e R s m args below meth c Q G A nL cells slots ws lv pc st0 := by
  intro H locs ls hP hD hS hl
  have hF := va_free hD hS C.al is hC
  obtain ⟨T9, N9, hc9⟩ := hm.2.2.2.2.2.2
  have hrec := va_recv C.K hP hc9 he
  refine va_calld (va_runV (As := As) (rest := st) C.call (M H.size) (xcwV C hm hk hd) ⟨xPre_blind, hrec, xprePre C hP hD hS hC hnd⟩ rfl hn (hl.1) hs (lv_room hcat) hdg ⟨by rw [Nat.add_zero]; exact hcs.1, by rw [Nat.add_zero]; exact hcs.2⟩) hS (fun q _ h => hF q h) hF (fun r9 u t H1 locs1 ht hvm hw9 hB hz1 hk1 hS1 => ?_)
  · subst hw9
    obtain ⟨hP1, hD1⟩ := hB
    rw [ht] at hP1
    obtain ⟨hP2, hD2⟩ := xjoin hP hD is hC ha hk1 hF hP1 hD1
    rw [hw] at hP2 hD2
    exact kk H1 locs1 ls hP2 hD2 hS1 hl
theorem xcallVd0 (C : CX p R s m args meth c cc nL own ret G tc A d) {y : MethodName} {cy : ByteArray} {ny n ci idx d' a : Nat} {ry : Option FieldType} {As : List Value} {fs : List Value} {w0 : va_W} {r : UInt64} (hm : xMv y cy ny ry n ci) (hk : Cond.methodLink own idx y ∈ wsL_law) (M : kD l y (xw y cy ny ry) d' G tc (.ref a :: As) w0 r w0) (hdg : decode cc pc = .ok (.invokevirtual idx, 3)) (q0 : Nat) (he : ws[q0]? = some (a, .inr (ci, fs))) (is : List Nat) {st0 : List Value} (hC : is.map (fun i => ws[i]?) = w0.map some) (hnd : va_nd is = true) (hn : As.length = n) (hd : d' + 1 ≤ d) (hs : st0 = As.reverse ++ .ref a :: st) (hcat : (st.map fun v => v.category).sum ≤ 8) (hcs : cells ≤ R.cells ∧ slots ≤ R.slots) (kk : xAT p l e R s m args below meth c Q G A nL cells slots ws lv (pc + 3) (.double r :: st)) : xAT p l e R s m args below meth c Q G A nL cells slots ws lv pc st0 := xcallVd C hm hk M hdg q0 he is ws hC hnd rfl (xrep_self is w0 ws hC) hn hd hs hcat hcs kk
theorem xcallSd (C : CX p R s m args meth c cc nL own ret G tc A d) {y : MethodName} {cy : ByteArray} {ny n idx d' : Nat} {ry : Option FieldType} {As : List Value} {w0 w1 : va_W} {r : UInt64} (hm : xMs y cy ny ry n) (hk : Cond.methodLink own idx y ∈ wsL_law) (M : kD l y (xw y cy ny ry) d' G tc As w0 r w1) (hdg : decode cc pc = .ok (.invokestatic idx, 3)) (is : List Nat) (w' : va_W) {st0 : List Value} (hC : is.map (fun i => ws[i]?) = w0.map some) (hnd : va_nd is = true) (ha : w1.map Prod.fst = w0.map Prod.fst) (hw : xrep ws is w1 = w') (hn : As.length = n) (hd : d' + 1 ≤ d) (hs : st0 = As.reverse ++ st) (hcat : (st.map fun v => v.category).sum ≤ 8) (hcs : cells ≤ R.cells ∧ slots ≤ R.slots) (kk : xAT p l e R s m args below meth c Q G A nL cells slots w' lv (pc + 3) (.double r :: st)) : xAT p l e R s m args below meth c Q G A nL cells slots ws lv pc st0 := by
  intro H locs ls hP hD hS hl
  have hF := va_free hD hS C.al is hC
  refine va_calld (va_runS (As := As) (rest := st) C.call (M H.size) ⟨xcwB C hm.1 hm.2.1 hm.2.2.2.1 hm.2.2.2.2 hk hd, C.w hm.2.2.1⟩ ⟨xPre_blind, xprePre C hP hD hS hC hnd⟩ rfl hn (hl.1) hs (lv_room hcat) hdg ⟨by rw [Nat.add_zero]; exact hcs.1, by rw [Nat.add_zero]; exact hcs.2⟩) hS (fun q _ h => hF q h) hF (fun r9 u t H1 locs1 ht hvm hw9 hB hz1 hk1 hS1 => ?_)
  · subst hw9
    obtain ⟨hP1, hD1⟩ := hB
    rw [ht] at hP1
    obtain ⟨hP2, hD2⟩ := xjoin hP hD is hC ha hk1 hF hP1 hD1
    rw [hw] at hP2 hD2
    exact kk H1 locs1 ls hP2 hD2 hS1 hl
theorem xcallSd0 (C : CX p R s m args meth c cc nL own ret G tc A d) {y : MethodName} {cy : ByteArray} {ny n idx d' : Nat} {ry : Option FieldType} {As : List Value} {w0 : va_W} {r : UInt64} (hm : xMs y cy ny ry n) (hk : Cond.methodLink own idx y ∈ wsL_law) (M : kD l y (xw y cy ny ry) d' G tc As w0 r w0) (hdg : decode cc pc = .ok (.invokestatic idx, 3)) (is : List Nat) {st0 : List Value} (hC : is.map (fun i => ws[i]?) = w0.map some) (hnd : va_nd is = true) (hn : As.length = n) (hd : d' + 1 ≤ d) (hs : st0 = As.reverse ++ st) (hcat : (st.map fun v => v.category).sum ≤ 8) (hcs : cells ≤ R.cells ∧ slots ≤ R.slots) (kk : xAT p l e R s m args below meth c Q G A nL cells slots ws lv (pc + 3) (.double r :: st)) : xAT p l e R s m args below meth c Q G A nL cells slots ws lv pc st0 := xcallSd C hm hk M hdg is ws hC hnd rfl (xrep_self is w0 ws hC) hn hd hs hcat hcs kk
theorem xcallNd (C : CX p R s m args meth c cc nL own ret G tc A d) {y : MethodName} {cy : ByteArray} {ny n idx d' : Nat} {ry : Option FieldType} {As : List Value} {w0 w1 : va_W} {host : String} {r : UInt64} (hm : xMs y cy ny ry n) (hk : va_Nw (.methodLinkNest own idx y host) s) (M : kD l y (xw y cy ny ry) d' G tc As w0 r w1) (hdg : decode cc pc = .ok (.invokestatic idx, 3)) (is : List Nat) (w' : va_W) {st0 : List Value} (hC : is.map (fun i => ws[i]?) = w0.map some) (hnd : va_nd is = true) (ha : w1.map Prod.fst = w0.map Prod.fst) (hw : xrep ws is w1 = w') (hn : As.length = n) (hd : d' + 1 ≤ d) (hs : st0 = As.reverse ++ st) (hcat : (st.map fun v => v.category).sum ≤ 8) (hcs : cells ≤ R.cells ∧ slots ≤ R.slots) (kk : xAT p l e R s m args below meth c Q G A nL cells slots w' lv (pc + 3) (.double r :: st)) : xAT p l e R s m args below meth c Q G A nL cells slots ws lv pc st0 := by
  intro H locs ls hP hD hS hl
  have hF := va_free hD hS C.al is hC
  refine va_calld (va_runSN (As := As) (rest := st) C.call (M H.size) ⟨xcwN C hm hk hd, C.w hm.2.2.1, trivial⟩ ⟨xPre_blind, xprePre C hP hD hS hC hnd⟩ rfl hn (hl.1) hs (lv_room hcat) hdg ⟨by rw [Nat.add_zero]; exact hcs.1, by rw [Nat.add_zero]; exact hcs.2⟩) hS (fun q _ h => hF q h) hF (fun r9 u t H1 locs1 ht hvm hw9 hB hz1 hk1 hS1 => ?_)
  · subst hw9
    obtain ⟨hP1, hD1⟩ := hB
    rw [ht] at hP1
    obtain ⟨hP2, hD2⟩ := xjoin hP hD is hC ha hk1 hF hP1 hD1
    rw [hw] at hP2 hD2
    exact kk H1 locs1 ls hP2 hD2 hS1 hl
theorem xcallNd0 (C : CX p R s m args meth c cc nL own ret G tc A d) {y : MethodName} {cy : ByteArray} {ny n idx d' : Nat} {ry : Option FieldType} {As : List Value} {w0 : va_W} {host : String} {r : UInt64} (hm : xMs y cy ny ry n) (hk : va_Nw (.methodLinkNest own idx y host) s) (M : kD l y (xw y cy ny ry) d' G tc As w0 r w0) (hdg : decode cc pc = .ok (.invokestatic idx, 3)) (is : List Nat) {st0 : List Value} (hC : is.map (fun i => ws[i]?) = w0.map some) (hnd : va_nd is = true) (hn : As.length = n) (hd : d' + 1 ≤ d) (hs : st0 = As.reverse ++ st) (hcat : (st.map fun v => v.category).sum ≤ 8) (hcs : cells ≤ R.cells ∧ slots ≤ R.slots) (kk : xAT p l e R s m args below meth c Q G A nL cells slots ws lv (pc + 3) (.double r :: st)) : xAT p l e R s m args below meth c Q G A nL cells slots ws lv pc st0 := xcallNd C hm hk M hdg is ws hC hnd rfl (xrep_self is w0 ws hC) hn hd hs hcat hcs kk
theorem xcallVv (C : CX p R s m args meth c cc nL own ret G tc A d) {y : MethodName} {cy : ByteArray} {ny n ci idx d' a : Nat} {ry : Option FieldType} {As : List Value} {fs : List Value} {w0 w1 : va_W} (hm : xMv y cy ny ry n ci) (hk : Cond.methodLink own idx y ∈ wsL_law) (M : kV l y (xw y cy ny ry) d' G tc (.ref a :: As) w0 w1) (hdg : decode cc pc = .ok (.invokevirtual idx, 3)) (q0 : Nat) (he : ws[q0]? = some (a, .inr (ci, fs))) (is : List Nat) (w' : va_W) {st0 : List Value} (hC : is.map (fun i => ws[i]?) = w0.map some) (hnd : va_nd is = true) (ha : w1.map Prod.fst = w0.map Prod.fst) (hw : xrep ws is w1 = w') (hn : As.length = n) (hd : d' + 1 ≤ d) (hs : st0 = As.reverse ++ .ref a :: st) (hcat : (st.map fun v => v.category).sum ≤ 8) (hcs : cells ≤ R.cells ∧ slots ≤ R.slots) (kk : xAT p l e R s m args below meth c Q G A nL cells slots w' lv (pc + 3) st) : xAT p l e R s m args below meth c Q G A nL cells slots ws lv pc st0 := by
  intro H locs ls hP hD hS hl
  have hF := va_free hD hS C.al is hC
  obtain ⟨T9, N9, hc9⟩ := hm.2.2.2.2.2.2
  have hrec := va_recv C.K hP hc9 he
  refine va_callv (va_runV (As := As) (rest := st) C.call (M H.size) (xcwV C hm hk hd) ⟨xPre_blind, hrec, xprePre C hP hD hS hC hnd⟩ rfl hn (hl.1) hs (lv_room hcat) hdg ⟨by rw [Nat.add_zero]; exact hcs.1, by rw [Nat.add_zero]; exact hcs.2⟩) hS (fun q _ h => hF q h) hF (fun u t H1 locs1 ht hvm hw9 hB hz1 hk1 hS1 => ?_)
  · obtain ⟨hP1, hD1⟩ := hB
    rw [ht] at hP1
    obtain ⟨hP2, hD2⟩ := xjoin hP hD is hC ha hk1 hF hP1 hD1
    rw [hw] at hP2 hD2
    exact kk H1 locs1 ls hP2 hD2 hS1 hl
theorem xcallVv0 (C : CX p R s m args meth c cc nL own ret G tc A d) {y : MethodName} {cy : ByteArray} {ny n ci idx d' a : Nat} {ry : Option FieldType} {As : List Value} {fs : List Value} {w0 : va_W} (hm : xMv y cy ny ry n ci) (hk : Cond.methodLink own idx y ∈ wsL_law) (M : kV l y (xw y cy ny ry) d' G tc (.ref a :: As) w0 w0) (hdg : decode cc pc = .ok (.invokevirtual idx, 3)) (q0 : Nat) (he : ws[q0]? = some (a, .inr (ci, fs))) (is : List Nat) {st0 : List Value} (hC : is.map (fun i => ws[i]?) = w0.map some) (hnd : va_nd is = true) (hn : As.length = n) (hd : d' + 1 ≤ d) (hs : st0 = As.reverse ++ .ref a :: st) (hcat : (st.map fun v => v.category).sum ≤ 8) (hcs : cells ≤ R.cells ∧ slots ≤ R.slots) (kk : xAT p l e R s m args below meth c Q G A nL cells slots ws lv (pc + 3) st) : xAT p l e R s m args below meth c Q G A nL cells slots ws lv pc st0 := xcallVv C hm hk M hdg q0 he is ws hC hnd rfl (xrep_self is w0 ws hC) hn hd hs hcat hcs kk
theorem xcallSv (C : CX p R s m args meth c cc nL own ret G tc A d) {y : MethodName} {cy : ByteArray} {ny n idx d' : Nat} {ry : Option FieldType} {As : List Value} {w0 w1 : va_W} (hm : xMs y cy ny ry n) (hk : Cond.methodLink own idx y ∈ wsL_law) (M : kV l y (xw y cy ny ry) d' G tc As w0 w1) (hdg : decode cc pc = .ok (.invokestatic idx, 3)) (is : List Nat) (w' : va_W) {st0 : List Value} (hC : is.map (fun i => ws[i]?) = w0.map some) (hnd : va_nd is = true) (ha : w1.map Prod.fst = w0.map Prod.fst) (hw : xrep ws is w1 = w') (hn : As.length = n) (hd : d' + 1 ≤ d) (hs : st0 = As.reverse ++ st) (hcat : (st.map fun v => v.category).sum ≤ 8) (hcs : cells ≤ R.cells ∧ slots ≤ R.slots) (kk : xAT p l e R s m args below meth c Q G A nL cells slots w' lv (pc + 3) st) : xAT p l e R s m args below meth c Q G A nL cells slots ws lv pc st0 := by
  intro H locs ls hP hD hS hl
  have hF := va_free hD hS C.al is hC
  refine va_callv (va_runS (As := As) (rest := st) C.call (M H.size) ⟨xcwB C hm.1 hm.2.1 hm.2.2.2.1 hm.2.2.2.2 hk hd, C.w hm.2.2.1⟩ ⟨xPre_blind, xprePre C hP hD hS hC hnd⟩ rfl hn (hl.1) hs (lv_room hcat) hdg ⟨by rw [Nat.add_zero]; exact hcs.1, by rw [Nat.add_zero]; exact hcs.2⟩) hS (fun q _ h => hF q h) hF (fun u t H1 locs1 ht hvm hw9 hB hz1 hk1 hS1 => ?_)
  · obtain ⟨hP1, hD1⟩ := hB
    rw [ht] at hP1
    obtain ⟨hP2, hD2⟩ := xjoin hP hD is hC ha hk1 hF hP1 hD1
    rw [hw] at hP2 hD2
    exact kk H1 locs1 ls hP2 hD2 hS1 hl
theorem xcallSv0 (C : CX p R s m args meth c cc nL own ret G tc A d) {y : MethodName} {cy : ByteArray} {ny n idx d' : Nat} {ry : Option FieldType} {As : List Value} {w0 : va_W} (hm : xMs y cy ny ry n) (hk : Cond.methodLink own idx y ∈ wsL_law) (M : kV l y (xw y cy ny ry) d' G tc As w0 w0) (hdg : decode cc pc = .ok (.invokestatic idx, 3)) (is : List Nat) {st0 : List Value} (hC : is.map (fun i => ws[i]?) = w0.map some) (hnd : va_nd is = true) (hn : As.length = n) (hd : d' + 1 ≤ d) (hs : st0 = As.reverse ++ st) (hcat : (st.map fun v => v.category).sum ≤ 8) (hcs : cells ≤ R.cells ∧ slots ≤ R.slots) (kk : xAT p l e R s m args below meth c Q G A nL cells slots ws lv (pc + 3) st) : xAT p l e R s m args below meth c Q G A nL cells slots ws lv pc st0 := xcallSv C hm hk M hdg is ws hC hnd rfl (xrep_self is w0 ws hC) hn hd hs hcat hcs kk
theorem xcallNv (C : CX p R s m args meth c cc nL own ret G tc A d) {y : MethodName} {cy : ByteArray} {ny n idx d' : Nat} {ry : Option FieldType} {As : List Value} {w0 w1 : va_W} {host : String} (hm : xMs y cy ny ry n) (hk : va_Nw (.methodLinkNest own idx y host) s) (M : kV l y (xw y cy ny ry) d' G tc As w0 w1) (hdg : decode cc pc = .ok (.invokestatic idx, 3)) (is : List Nat) (w' : va_W) {st0 : List Value} (hC : is.map (fun i => ws[i]?) = w0.map some) (hnd : va_nd is = true) (ha : w1.map Prod.fst = w0.map Prod.fst) (hw : xrep ws is w1 = w') (hn : As.length = n) (hd : d' + 1 ≤ d) (hs : st0 = As.reverse ++ st) (hcat : (st.map fun v => v.category).sum ≤ 8) (hcs : cells ≤ R.cells ∧ slots ≤ R.slots) (kk : xAT p l e R s m args below meth c Q G A nL cells slots w' lv (pc + 3) st) : xAT p l e R s m args below meth c Q G A nL cells slots ws lv pc st0 := by
  intro H locs ls hP hD hS hl
  have hF := va_free hD hS C.al is hC
  refine va_callv (va_runSN (As := As) (rest := st) C.call (M H.size) ⟨xcwN C hm hk hd, C.w hm.2.2.1, trivial⟩ ⟨xPre_blind, xprePre C hP hD hS hC hnd⟩ rfl hn (hl.1) hs (lv_room hcat) hdg ⟨by rw [Nat.add_zero]; exact hcs.1, by rw [Nat.add_zero]; exact hcs.2⟩) hS (fun q _ h => hF q h) hF (fun u t H1 locs1 ht hvm hw9 hB hz1 hk1 hS1 => ?_)
  · obtain ⟨hP1, hD1⟩ := hB
    rw [ht] at hP1
    obtain ⟨hP2, hD2⟩ := xjoin hP hD is hC ha hk1 hF hP1 hD1
    rw [hw] at hP2 hD2
    exact kk H1 locs1 ls hP2 hD2 hS1 hl
theorem xcallNv0 (C : CX p R s m args meth c cc nL own ret G tc A d) {y : MethodName} {cy : ByteArray} {ny n idx d' : Nat} {ry : Option FieldType} {As : List Value} {w0 : va_W} {host : String} (hm : xMs y cy ny ry n) (hk : va_Nw (.methodLinkNest own idx y host) s) (M : kV l y (xw y cy ny ry) d' G tc As w0 w0) (hdg : decode cc pc = .ok (.invokestatic idx, 3)) (is : List Nat) {st0 : List Value} (hC : is.map (fun i => ws[i]?) = w0.map some) (hnd : va_nd is = true) (hn : As.length = n) (hd : d' + 1 ≤ d) (hs : st0 = As.reverse ++ st) (hcat : (st.map fun v => v.category).sum ≤ 8) (hcs : cells ≤ R.cells ∧ slots ≤ R.slots) (kk : xAT p l e R s m args below meth c Q G A nL cells slots ws lv (pc + 3) st) : xAT p l e R s m args below meth c Q G A nL cells slots ws lv pc st0 := xcallNv C hm hk M hdg is ws hC hnd rfl (xrep_self is w0 ws hC) hn hd hs hcat hcs kk

def xargs : List Value → List (Option Value)
  | [] => []
  | v :: r => if v.category = 2 then some v :: none :: xargs r else some v :: xargs r
theorem xargs_mem (k : Nat) : ∀ (av : List Value) (n i : Nat) (v : Value), (xargs av ++ List.replicate k none)[i]? = some (some v) → (n + i, v) ∈ lv_args n av
  | [], n, i, v, h => by
    have h : (List.replicate k (none : Option Value))[i]? = some (some v) := h
    rw [List.getElem?_replicate] at h
    split at h <;> simp at h
  | w :: r, n, i, v, h => by
    unfold xargs at h
    unfold lv_args
    by_cases hc : w.category = 2
    · rw [if_pos hc] at h
      rw [if_pos hc]
      match i, h with
      | 0, h => simp at h; subst h; exact List.mem_cons_self
      | 1, h => simp at h
      | i + 2, h =>
        have := xargs_mem k r (n + 2) i v h
        rw [show n + (i + 2) = n + 2 + i by omega]
        exact List.mem_cons_of_mem _ this
    · rw [if_neg hc] at h
      rw [if_neg hc]
      match i, h with
      | 0, h => simp at h; subst h; exact List.mem_cons_self
      | i + 1, h =>
        have := xargs_mem k r (n + 1) i v h
        rw [show n + (i + 1) = n + 1 + i by omega]
        exact List.mem_cons_of_mem _ this
def xQi (below : List Frame) (args : Array Value) (s : State) (G : va_G) (A : Nat → Prop) (r : Int32) (w1 : va_W) : State → Prop := MQ below (va_Qi (fun r' (_ : Unit) => r' = r) (xB G A w1) A) args s 0 0 A
def xQl (below : List Frame) (args : Array Value) (s : State) (G : va_G) (A : Nat → Prop) (r : Int64) (w1 : va_W) : State → Prop := MQ below (va_Ql (fun r' (_ : Unit) => r' = r) (xB G A w1) A) args s 0 0 A
def xQd (below : List Frame) (args : Array Value) (s : State) (G : va_G) (A : Nat → Prop) (r : UInt64) (w1 : va_W) : State → Prop := MQ below (va_Qd (fun r' (_ : Unit) => r' = r) (xB G A w1) A) args s 0 0 A
def xQv (below : List Frame) (args : Array Value) (s : State) (G : va_G) (A : Nat → Prop) (w1 : va_W) : State → Prop := MQ below (va_Qv (fun (_ : Unit) => True) (xB G A w1) A) args s 0 0 A
theorem kI_of {y : MethodName} {cy : ByteArray} {ny : Nat} {rt : Option FieldType} {av : List Value} {w0 w1 : va_W} {r : Int32} (lv : List (Option Value)) (k : Nat) (hy : plainName y.cls = true) (hn : (lg_sl av).length ≤ ny) (hlv : xargs av ++ List.replicate k none = lv)
    (body : ∀ p e s m args below meth c A, CX p (xR d 0 0) s m args meth c cy ny y.cls rt G tc A d → xAT p l e (xR d 0 0) s m args below meth c (xQi below args s G A r w1) G A ny 0 0 w0 lv 0 []) : kI l y (xw y cy ny rt) d G tc av w0 r w1 := by
  intro sz
  refine Met.ofW (cc := cy) (maxL := ny) (ret := rt) hy rfl ?_
  intro p e s m args below meth c s₁ B hml hv
  obtain ⟨rfl, hsz, hP, hD0, hE, hZ⟩ := hv
  subst hsz
  have hts := atoms_spec (ws := xw y cy ny rt) B.pre
  have C : CX p (xR d 0 0) s m av.toArray meth c cy ny y.cls rt G tc (va_A w0 s.heap.size) d := ⟨B.exec, B.bytes, hml, findClass_of_methodNamed B.named, fun w hw => hts w (List.mem_cons_of_mem _ hw), B.returns, B.notSynchronized, hE, hZ, fun q h => Or.inr h, Nat.le_refl _, Nat.le_refl _⟩
  obtain ⟨ls, he, hl⟩ := xentry m av ny hn (lv := lv) (fun i v h => by
    subst hlv
    have := xargs_mem k av 0 i v h
    rwa [Nat.zero_add] at this)
  rw [he]
  exact body p e s m _ below meth c _ C s.heap [] ls hP (hD0.self (sz := s.heap.size)) va_S.rf hl
theorem kL_of {y : MethodName} {cy : ByteArray} {ny : Nat} {rt : Option FieldType} {av : List Value} {w0 w1 : va_W} {r : Int64} (lv : List (Option Value)) (k : Nat) (hy : plainName y.cls = true) (hn : (lg_sl av).length ≤ ny) (hlv : xargs av ++ List.replicate k none = lv)
    (body : ∀ p e s m args below meth c A, CX p (xR d 0 0) s m args meth c cy ny y.cls rt G tc A d → xAT p l e (xR d 0 0) s m args below meth c (xQl below args s G A r w1) G A ny 0 0 w0 lv 0 []) : kL l y (xw y cy ny rt) d G tc av w0 r w1 := by
  intro sz
  refine Met.ofW (cc := cy) (maxL := ny) (ret := rt) hy rfl ?_
  intro p e s m args below meth c s₁ B hml hv
  obtain ⟨rfl, hsz, hP, hD0, hE, hZ⟩ := hv
  subst hsz
  have hts := atoms_spec (ws := xw y cy ny rt) B.pre
  have C : CX p (xR d 0 0) s m av.toArray meth c cy ny y.cls rt G tc (va_A w0 s.heap.size) d := ⟨B.exec, B.bytes, hml, findClass_of_methodNamed B.named, fun w hw => hts w (List.mem_cons_of_mem _ hw), B.returns, B.notSynchronized, hE, hZ, fun q h => Or.inr h, Nat.le_refl _, Nat.le_refl _⟩
  obtain ⟨ls, he, hl⟩ := xentry m av ny hn (lv := lv) (fun i v h => by
    subst hlv
    have := xargs_mem k av 0 i v h
    rwa [Nat.zero_add] at this)
  rw [he]
  exact body p e s m _ below meth c _ C s.heap [] ls hP (hD0.self (sz := s.heap.size)) va_S.rf hl
theorem kD_of {y : MethodName} {cy : ByteArray} {ny : Nat} {rt : Option FieldType} {av : List Value} {w0 w1 : va_W} {r : UInt64} (lv : List (Option Value)) (k : Nat) (hy : plainName y.cls = true) (hn : (lg_sl av).length ≤ ny) (hlv : xargs av ++ List.replicate k none = lv)
    (body : ∀ p e s m args below meth c A, CX p (xR d 0 0) s m args meth c cy ny y.cls rt G tc A d → xAT p l e (xR d 0 0) s m args below meth c (xQd below args s G A r w1) G A ny 0 0 w0 lv 0 []) : kD l y (xw y cy ny rt) d G tc av w0 r w1 := by
  intro sz
  refine Met.ofW (cc := cy) (maxL := ny) (ret := rt) hy rfl ?_
  intro p e s m args below meth c s₁ B hml hv
  obtain ⟨rfl, hsz, hP, hD0, hE, hZ⟩ := hv
  subst hsz
  have hts := atoms_spec (ws := xw y cy ny rt) B.pre
  have C : CX p (xR d 0 0) s m av.toArray meth c cy ny y.cls rt G tc (va_A w0 s.heap.size) d := ⟨B.exec, B.bytes, hml, findClass_of_methodNamed B.named, fun w hw => hts w (List.mem_cons_of_mem _ hw), B.returns, B.notSynchronized, hE, hZ, fun q h => Or.inr h, Nat.le_refl _, Nat.le_refl _⟩
  obtain ⟨ls, he, hl⟩ := xentry m av ny hn (lv := lv) (fun i v h => by
    subst hlv
    have := xargs_mem k av 0 i v h
    rwa [Nat.zero_add] at this)
  rw [he]
  exact body p e s m _ below meth c _ C s.heap [] ls hP (hD0.self (sz := s.heap.size)) va_S.rf hl
theorem kV_of {y : MethodName} {cy : ByteArray} {ny : Nat} {rt : Option FieldType} {av : List Value} {w0 w1 : va_W} (lv : List (Option Value)) (k : Nat) (hy : plainName y.cls = true) (hn : (lg_sl av).length ≤ ny) (hlv : xargs av ++ List.replicate k none = lv)
    (body : ∀ p e s m args below meth c A, CX p (xR d 0 0) s m args meth c cy ny y.cls rt G tc A d → xAT p l e (xR d 0 0) s m args below meth c (xQv below args s G A w1) G A ny 0 0 w0 lv 0 []) : kV l y (xw y cy ny rt) d G tc av w0 w1 := by
  intro sz
  refine Met.ofW (cc := cy) (maxL := ny) (ret := rt) hy rfl ?_
  intro p e s m args below meth c s₁ B hml hv
  obtain ⟨rfl, hsz, hP, hD0, hE, hZ⟩ := hv
  subst hsz
  have hts := atoms_spec (ws := xw y cy ny rt) B.pre
  have C : CX p (xR d 0 0) s m av.toArray meth c cy ny y.cls rt G tc (va_A w0 s.heap.size) d := ⟨B.exec, B.bytes, hml, findClass_of_methodNamed B.named, fun w hw => hts w (List.mem_cons_of_mem _ hw), B.returns, B.notSynchronized, hE, hZ, fun q h => Or.inr h, Nat.le_refl _, Nat.le_refl _⟩
  obtain ⟨ls, he, hl⟩ := xentry m av ny hn (lv := lv) (fun i v h => by
    subst hlv
    have := xargs_mem k av 0 i v h
    rwa [Nat.zero_add] at this)
  rw [he]
  exact body p e s m _ below meth c _ C s.heap [] ls hP (hD0.self (sz := s.heap.size)) va_S.rf hl
theorem xiret (C : CX p R s m args meth c cc nL own (some .int) G tc A d) {v r : Int32} {w1 : va_W} (hdg : decode cc pc = .ok (.ireturn, 1)) (hv : v = r) (hw : ws = w1) : xAT p l e R s m args below meth c (xQi below args s G A r w1) G A nL 0 0 ws lv pc [.int v] := by
  subst hv
  subst hw
  exact fun H locs ls hP hD hS hl => W.iret C.1 C.2.1 C.rt (fun t ht hW => ⟨⟨v, (), rfl, rfl, by rw [ht]; exact hP, hD⟩, hS.F ht⟩) hS.2.2 hdg C.lock
theorem xzret (C : CX p R s m args meth c cc nL own (some .boolean) G tc A d) {v r : Int32} {w1 : va_W} (hdg : decode cc pc = .ok (.ireturn, 1)) (hn : narrow .boolean (.int v) = .int v) (hv : v = r) (hw : ws = w1) : xAT p l e R s m args below meth c (xQi below args s G A r w1) G A nL 0 0 ws lv pc [.int v] := by
  subst hv
  subst hw
  exact fun H locs ls hP hD hS hl => W.zret C.1 C.2.1 C.rt hn (fun t ht hW => ⟨⟨v, (), rfl, rfl, by rw [ht]; exact hP, hD⟩, hS.F ht⟩) hS.2.2 hdg C.lock
theorem xlret (C : CX p R s m args meth c cc nL own (some .long) G tc A d) {v r : Int64} {w1 : va_W} (hdg : decode cc pc = .ok (.lreturn, 1)) (hv : v = r) (hw : ws = w1) : xAT p l e R s m args below meth c (xQl below args s G A r w1) G A nL 0 0 ws lv pc [.long v] := by
  subst hv
  subst hw
  exact fun H locs ls hP hD hS hl => W.lret C.1 C.2.1 C.rt (fun t ht hW => ⟨⟨v, (), rfl, rfl, by rw [ht]; exact hP, hD⟩, hS.F ht⟩) hS.2.2 hdg C.lock
theorem xdret (C : CX p R s m args meth c cc nL own (some .double) G tc A d) {v r : UInt64} {w1 : va_W} (hdg : decode cc pc = .ok (.dreturn, 1)) (hv : v = r) (hw : ws = w1) : xAT p l e R s m args below meth c (xQd below args s G A r w1) G A nL 0 0 ws lv pc [.double v] := by
  subst hv
  subst hw
  exact fun H locs ls hP hD hS hl => W.dret C.1 C.2.1 C.rt (fun t ht hW => ⟨⟨v, (), rfl, rfl, by rw [ht]; exact hP, hD⟩, hS.F ht⟩) hS.2.2 hdg C.lock
theorem xvret (C : CX p R s m args meth c cc nL own none G tc A d) {w1 : va_W} (hdg : decode cc pc = .ok (.return_, 1)) (hw : ws = w1) : xAT p l e R s m args below meth c (xQv below args s G A w1) G A nL 0 0 ws lv pc [] := by
  skip
  subst hw
  exact fun H locs ls hP hD hS hl => W.vret C.1 C.2.1 C.rt (fun t ht hW => ⟨⟨(), rfl, trivial, by rw [ht]; exact hP, hD⟩, hS.F ht⟩) hS.2.2 hdg C.lock
end XH
