section XN
variable {p : Program} {l : Launch} {e : Env} {R : Room} {s : State} {m : MethodId} {args : Array Value} {below : List Frame} {meth : Method} {c : Code} {Q : State → Prop} {G : va_G} {tc : Nat → ClassId} {A : Nat → Prop} {cc : ByteArray} {nL : Nat} {own : String} {ret : Option FieldType} {d cells slots pc : Nat} {ws : va_W} {lv : List (Option Value)} {st : List Value}
def xa (a0 : Nat) (u : Nat → Nat) : Nat → Nat
  | 0 => a0
  | k + 1 => u k
def kNN (l : Launch) (y : MethodName) (ws : List Cond) (d mc ms : Nat) (G : va_G) (tc : Nat → ClassId) (av : List Value) (w0 : va_W) (w1 : (Nat → Nat → Nat) → va_W) : Prop := ∀ sz : Nat, Met l y ws (xR d mc ms) (xPre G tc av w0 sz) (va_Qv (fun (_ : Nat → Nat → Nat) => True) (fun u t => va_P G vwCl (w1 u) t.heap ∧ va_D (va_A w0 sz) (w1 u)) (va_A w0 sz)) mc ms (va_A w0 sz)
abbrev xQn (below : List Frame) (args : Array Value) (s : State) (G : va_G) (A : Nat → Prop) (w1 : (Nat → Nat → Nat) → va_W) (mc ms : Nat) : State → Prop := MQ below (va_Qv (fun (_ : Nat → Nat → Nat) => True) (fun u t => va_P G vwCl (w1 u) t.heap ∧ va_D A (w1 u)) A) args s mc ms A
theorem xnret (C : CX p R s m args meth c cc nL own none G tc A d) {w1 : (Nat → Nat → Nat) → va_W} (hdg : decode cc pc = .ok (.return_, 1)) (u : Nat → Nat → Nat) (hw : ws = w1 u) : xAT p l e R s m args below meth c (xQn below args s G A w1 cells slots) G A nL cells slots ws lv pc [] := by
  subst hw
  exact fun H locs ls hP hD hS hl => W.vret C.1 C.2.1 C.rt (fun t ht hW => ⟨⟨u, rfl, trivial, by rw [ht]; exact hP, hD⟩, hS.F ht⟩) hS.2.2 hdg C.lock
theorem kNN_of {mc ms : Nat} {y : MethodName} {cy : ByteArray} {ny : Nat} {av : List Value} {w0 : va_W} {w1 : (Nat → Nat → Nat) → va_W} (lv : List (Option Value)) (k : Nat) (hy : plainName y.cls = true) (hn : (lg_sl av).length ≤ ny) (hlv : xargs av ++ List.replicate k none = lv)
    (body : ∀ p e s m args below meth c A, CX p (xR d mc ms) s m args meth c cy ny y.cls none G tc A d → meth.name = y.name → xAT p l e (xR d mc ms) s m args below meth c (xQn below args s G A w1 mc ms) G A ny 0 0 w0 lv 0 []) : kNN l y (xw y cy ny none) d mc ms G tc av w0 w1 := by
  intro sz
  refine Met.ofW (cc := cy) (maxL := ny) (ret := none) hy rfl ?_
  intro p e s m args below meth c s₁ B hml hv
  obtain ⟨rfl, hsz, hP, hD0, hE, hZ⟩ := hv
  subst hsz
  have hts := atoms_spec (ws := xw y cy ny none) B.pre
  have C : CX p (xR d mc ms) s m av.toArray meth c cy ny y.cls none G tc (va_A w0 s.heap.size) d := ⟨B.exec, B.bytes, hml, findClass_of_methodNamed B.named, fun w hw => hts w (List.mem_cons_of_mem _ hw), B.returns, B.notSynchronized, hE, hZ, fun q h => Or.inr h, Nat.le_refl _, Nat.le_refl _⟩
  obtain ⟨ls, he, hl⟩ := xentry m av ny hn (lv := lv) (fun i v h => by
    subst hlv
    have := xargs_mem k av 0 i v h
    rwa [Nat.zero_add] at this)
  rw [he]
  exact body p e s m _ below meth c _ C (name_of_methodNamed B.named B.method).1 s.heap [] ls hP (hD0.self (sz := s.heap.size)) va_S.rf hl
theorem xobj (C : CX p R s m args meth c cc nL own ret G tc A d) {idx a : Nat} (hk : Cond.methodLink own idx objectInit ∈ wsL_law) (hdg : decode cc pc = .ok (.invokespecial idx, 3)) (hcat : (st.map fun v => v.category).sum ≤ 8) (kk : xAT p l e R s m args below meth c Q G A nL cells slots ws lv (pc + 3) st) : xAT p l e R s m args below meth c Q G A nL cells slots ws lv pc (.ref a :: st) := fun H locs ls hP hD hS hl => by
  have h1 := C.room.1
  have h2 := C.room.2
  have h3 : 2 * (F0 m pc ls st).monitorRoom + (st.map fun v => v.category).sum ≤ 8 := lv_room hcat
  exact W.objInit C.1 C.2.1 C.ow (C.w hk) (C.w (in_wsL_law0_r1 _ (List.mem_of_getElem? (i := 13) rfl))) (C.w (in_wsL_law0_r1 _ (List.mem_of_getElem? (i := 14) rfl))) rfl (by rw [C.2.2.1]; exact hl.1) rfl hdg (by omega) (Nat.le_trans (Nat.add_le_add_right h3 12) (by omega)) (kk H locs ls hP hD hS hl)
theorem xnew (C : CX p R s m args meth c cc nL own ret G tc A d) {ci idx : Nat} {C' : String} {T : u_T} {N : Nat} {ty0 : Nat → FieldType} {fs : List Value} (hdg : decode cc pc = .ok (.new idx, 3)) (hc : vwCl[ci]? = some (C', T, N)) (hin : ∀ w ∈ u_ws C' T N, w ∈ wsL_law) (hty : ∀ k, k < N → parseFieldDescriptor (T k).2.2.1 = some (ty0 k)) (hk : Cond.classLink own idx C' ∈ wsL_law) (hi : Cond.instantiable C' N ∈ wsL_law) (hini : Cond.initialized C' ∈ wsL_law) (hfs : ∀ j, j < N → defaultValue (ty0 j) = vp_V fs j) (hR : cells + 1 ≤ R.cells ∧ slots + N ≤ R.slots) (kk : ∀ q : Nat, xAT p l e R s m args below meth c Q G A nL (cells + 1) (slots + N) (ws ++ [(q, .inr (ci, fs))]) lv (pc + 3) (.ref q :: st)) : xAT p l e R s m args below meth c Q G A nL cells slots ws lv pc st := fun H locs ls hP hD hS hl =>
  va_new C.1 C.2.1 C.2.2.2.2.1 hin ty0 hty C.ow (C.w hk) (C.w hi) (C.w hini) C.K hP hD hS C.al hc hfs hR.1 hR.2 hdg (fun q H1 q1 q2 q3 => kk q H1 locs ls q1 q2 q3 hl)
theorem xnewa_i (C : CX p R s m args meth c cc nL own ret G tc A d) (N : Nat) {v : Int32} (hdg : decode cc pc = .ok (.newarray .int, 2)) (hv : v = nI N) (hN : N < 2 ^ 20) (hR : cells + 1 ≤ R.cells ∧ slots + N ≤ R.slots) (kk : ∀ q : Nat, xAT p l e R s m args below meth c Q G A nL (cells + 1) (slots + N) (ws ++ [(q, .inl (tc 0, N, .inl (fun _ => 0)))]) lv (pc + 2) (.ref q :: st)) : xAT p l e R s m args below meth c Q G A nL cells slots ws lv pc (.int v :: st) := fun H locs ls hP hD hS hl => by
  subst hv
  refine va_newa (atype := .int) (a0 := (N, .inl (fun _ => 0))) C.1 C.2.1 (C.w (in_wsL_law0_r2 _ (List.mem_of_getElem? (i := 16) rfl))) rfl C.K hP hD hS C.al (fun _ => rfl) (nI_pos (by omega)) (nI_clamp (by omega)) (Nat.le_trans (Nat.mul_le_mul_left N (show componentBytes .int ≤ 8 by decide)) (by omega)) hR.1 hR.2 hdg (fun q cA H1 hK1 q1 q2 q3 => ?_)
  have e1 : va_RA s cA .int := (hK1.2 4 (cA, .int) rfl).2
  have e2 : va_RA s (tc 0) .int := (C.K.2 0 (tc 0, .int) rfl).2
  have e1 : s.vm.findClass ("[" ++ FieldType.toString .int) = some cA := e1
  have e2 : s.vm.findClass ("[" ++ FieldType.toString .int) = some (tc 0) := e2
  rw [e2] at e1
  cases e1
  exact kk q H1 locs ls q1 q2 q3 hl
theorem xnewa_z (C : CX p R s m args meth c cc nL own ret G tc A d) (N : Nat) {v : Int32} (hdg : decode cc pc = .ok (.newarray .boolean, 2)) (hv : v = nI N) (hN : N < 2 ^ 20) (hR : cells + 1 ≤ R.cells ∧ slots + N ≤ R.slots) (kk : ∀ q : Nat, xAT p l e R s m args below meth c Q G A nL (cells + 1) (slots + N) (ws ++ [(q, .inl (tc 2, N, .inl (fun _ => 0)))]) lv (pc + 2) (.ref q :: st)) : xAT p l e R s m args below meth c Q G A nL cells slots ws lv pc (.int v :: st) := fun H locs ls hP hD hS hl => by
  subst hv
  refine va_newa (atype := .boolean) (a0 := (N, .inl (fun _ => 0))) C.1 C.2.1 (C.w (in_wsL_law0_r4 _ (List.mem_of_getElem? (i := 20) rfl))) rfl C.K hP hD hS C.al (fun _ => rfl) (nI_pos (by omega)) (nI_clamp (by omega)) (Nat.le_trans (Nat.mul_le_mul_left N (show componentBytes .boolean ≤ 8 by decide)) (by omega)) hR.1 hR.2 hdg (fun q cA H1 hK1 q1 q2 q3 => ?_)
  have e1 : va_RA s cA .boolean := (hK1.2 4 (cA, .boolean) rfl).2
  have e2 : va_RA s (tc 2) .boolean := (C.K.2 2 (tc 2, .boolean) rfl).2
  have e1 : s.vm.findClass ("[" ++ FieldType.toString .boolean) = some cA := e1
  have e2 : s.vm.findClass ("[" ++ FieldType.toString .boolean) = some (tc 2) := e2
  rw [e2] at e1
  cases e1
  exact kk q H1 locs ls q1 q2 q3 hl
theorem xnewa_l (C : CX p R s m args meth c cc nL own ret G tc A d) (N : Nat) {v : Int32} (hdg : decode cc pc = .ok (.newarray .long, 2)) (hv : v = nI N) (hN : N < 2 ^ 20) (hR : cells + 1 ≤ R.cells ∧ slots + N ≤ R.slots) (kk : ∀ q : Nat, xAT p l e R s m args below meth c Q G A nL (cells + 1) (slots + N) (ws ++ [(q, .inl (tc 1, N, .inr (.inl (fun _ => 0))))]) lv (pc + 2) (.ref q :: st)) : xAT p l e R s m args below meth c Q G A nL cells slots ws lv pc (.int v :: st) := fun H locs ls hP hD hS hl => by
  subst hv
  refine va_newa (atype := .long) (a0 := (N, .inr (.inl (fun _ => 0)))) C.1 C.2.1 (C.w (in_wsL_law0_r1 _ (List.mem_of_getElem? (i := 6) rfl))) rfl C.K hP hD hS C.al (fun _ => rfl) (nI_pos (by omega)) (nI_clamp (by omega)) (Nat.le_trans (Nat.mul_le_mul_left N (show componentBytes .long ≤ 8 by decide)) (by omega)) hR.1 hR.2 hdg (fun q cA H1 hK1 q1 q2 q3 => ?_)
  have e1 : va_RA s cA .long := (hK1.2 4 (cA, .long) rfl).2
  have e2 : va_RA s (tc 1) .long := (C.K.2 1 (tc 1, .long) rfl).2
  have e1 : s.vm.findClass ("[" ++ FieldType.toString .long) = some cA := e1
  have e2 : s.vm.findClass ("[" ++ FieldType.toString .long) = some (tc 1) := e2
  rw [e2] at e1
  cases e1
  exact kk q H1 locs ls q1 q2 q3 hl
theorem xnewa_d (C : CX p R s m args meth c cc nL own ret G tc A d) (N : Nat) {v : Int32} (hdg : decode cc pc = .ok (.newarray .double, 2)) (hv : v = nI N) (hN : N < 2 ^ 20) (hR : cells + 1 ≤ R.cells ∧ slots + N ≤ R.slots) (kk : ∀ q : Nat, xAT p l e R s m args below meth c Q G A nL (cells + 1) (slots + N) (ws ++ [(q, .inl (tc 3, N, .inr (.inr (.inr (.inl (fun _ => 0))))))]) lv (pc + 2) (.ref q :: st)) : xAT p l e R s m args below meth c Q G A nL cells slots ws lv pc (.int v :: st) := fun H locs ls hP hD hS hl => by
  subst hv
  refine va_newa (atype := .double) (a0 := (N, .inr (.inr (.inr (.inl (fun _ => 0)))))) C.1 C.2.1 (C.w (in_wsL_law0_r1 _ (List.mem_of_getElem? (i := 7) rfl))) rfl C.K hP hD hS C.al (fun _ => rfl) (nI_pos (by omega)) (nI_clamp (by omega)) (Nat.le_trans (Nat.mul_le_mul_left N (show componentBytes .double ≤ 8 by decide)) (by omega)) hR.1 hR.2 hdg (fun q cA H1 hK1 q1 q2 q3 => ?_)
  have e1 : va_RA s cA .double := (hK1.2 4 (cA, .double) rfl).2
  have e2 : va_RA s (tc 3) .double := (C.K.2 3 (tc 3, .double) rfl).2
  have e1 : s.vm.findClass ("[" ++ FieldType.toString .double) = some cA := e1
  have e2 : s.vm.findClass ("[" ++ FieldType.toString .double) = some (tc 3) := e2
  rw [e2] at e1
  cases e1
  exact kk q H1 locs ls q1 q2 q3 hl
theorem xcallN (C : CX p R s m args meth c cc nL own ret G tc A d) {pre w0 post : va_W} {w1 : (Nat → Nat → Nat) → va_W} {y : MethodName} {cy : ByteArray} {ny n idx d' a mc ms : Nat} {As : List Value} (hy : y.name = "<init>") (h1 : Cond.code y cy ny none ∈ wsL_law) (h2 : Cond.initialized y.cls ∈ wsL_law) (h3 : Cond.instanceMethod y ∈ wsL_law) (h5 : y.cls ≠ "java/lang/invoke/MethodHandle" ∧ y.cls ≠ "java/lang/invoke/VarHandle" ∧ (parseMethodDescriptor y.desc).map (fun d => d.parameters.length) = some n) (h6 : ny ≤ 20) (hk : Cond.methodLink own idx y ∈ wsL_law) (M : kNN l y (xw y cy ny none) d' mc ms G tc (.ref a :: As) w0 w1) (hdg : decode cc pc = .ok (.invokespecial idx, 3)) {st0 : List Value} (hn : As.length = n) (hd : d' + 1 ≤ d) (hs : st0 = As.reverse ++ .ref a :: st) (hcat : (st.map fun v => v.category).sum ≤ 8) (hcs : cells + mc ≤ R.cells ∧ slots + ms ≤ R.slots) (kk : ∀ u : Nat → Nat → Nat, xAT p l e R s m args below meth c Q G A nL (cells + mc) (slots + ms) (pre ++ (w1 u ++ post)) lv (pc + 3) st) : xAT p l e R s m args below meth c Q G A nL cells slots (pre ++ (w0 ++ post)) lv pc st0 := by
  intro H locs ls hP hD hS hl
  have hF := xfreeB hD hS C.al
  refine va_callv (va_runI (As := As) (rest := st) C.call (M H.size) ⟨xcwB C h1 h2 h5 h6 hk hd, hy, C.w h3⟩ ⟨xPre_blind, xprePreB C hP hD hS⟩ rfl hn (hl.1) hs (lv_room hcat) hdg hcs) hS (fun q _ h => hF q h) hF (fun u t H1 locs1 ht hvm hw9 hB hz1 hk1 hS1 => ?_)
  obtain ⟨hP1, hD1⟩ := hB
  rw [ht] at hP1
  obtain ⟨hP2, hD2⟩ := xblk hP hD hk1 hF hP1 hD1
  exact kk u H1 locs1 ls hP2 hD2 hS1 hl
end XN
set_option maxHeartbeats 4000000 in
set_option maxRecDepth 100000 in
theorem c_X4_init (l : Launch) (G : va_G) (tc : Nat → ClassId) (a0 : Nat) : kNN l yX4_init (xw yX4_init cX4_init 1 none) 0 1 48 G tc [.ref a0] [(a0, .inr (4, [.null, .int 0, .int 0]))] (fun u => wT tc (xa a0 (u 0)) (fun _ => 0) 0 (-1)) := by
  refine kNN_of [some (.ref a0)] 0 (by decide) (Nat.le_of_ble_eq_true rfl) rfl ?_
  intro p e s m args below meth c A C hin
  refine xaload_0 C dX4_init_0 ?_
  refine xobj C k_X4_3 dX4_init_1 (Nat.le_of_ble_eq_true rfl) ?_
  refine xaload_0 C dX4_init_4 ?_
  refine xbipush C (nI 48) dX4_init_5 (by decide) ?_
  refine xnewa_i C 48 dX4_init_7 rfl (by decide) ⟨by decide, by decide⟩ (fun q0 => ?_)
  refine xputF C hin 0 ([(a0, .inr (4, [.ref q0, .int 0, .int 0])), (q0, .inl (tc 0, 48, .inl (fun _ => 0)))]) fw_X4_9 rfl dX4_init_9 rfl (Nat.le_of_ble_eq_true rfl) rfl rfl rfl ?_
  refine xaload_0 C dX4_init_12 ?_
  refine xiconst C (nI 0) dX4_init_13 (by decide) ?_
  refine xput C 0 ([(a0, .inr (4, [.ref q0, .int (nI 0), .int 0])), (q0, .inl (tc 0, 48, .inl (fun _ => 0)))]) fw_X4_15 dX4_init_14 rfl (Nat.le_of_ble_eq_true rfl) rfl rfl rfl ?_
  refine xaload_0 C dX4_init_17 ?_
  refine xiconst C (-1) dX4_init_18 (by decide) ?_
  refine xput C 0 ([(a0, .inr (4, [.ref q0, .int (nI 0), .int (-1)])), (q0, .inl (tc 0, 48, .inl (fun _ => 0)))]) fw_X4_19 dX4_init_19 rfl (Nat.le_of_ble_eq_true rfl) rfl rfl rfl ?_
  exact xnret C dX4_init_22 (fun _ _ => q0) rfl
set_option maxHeartbeats 4000000 in
set_option maxRecDepth 100000 in
theorem c_X1_init (l : Launch) (G : va_G) (tc : Nat → ClassId) (a0 : Nat) : kNN l yX1_init (xw yX1_init cX1_init 1 none) 0 7 336 G tc [.ref a0] [(a0, .inr (1, [.null, .null, .null, .null, .null, .null, .null, .int 0, .int 0, .int 0, .int 0]))] (fun u => wI tc (xa a0 (u 0)) (fun _ => 0) (fun _ => 0) (fun _ => 0) (fun _ => 0) (fun _ => 0) (fun _ => 0) (fun _ => 0) 0 0 0 false) := by
  refine kNN_of [some (.ref a0)] 0 (by decide) (Nat.le_of_ble_eq_true rfl) rfl ?_
  intro p e s m args below meth c A C hin
  refine xaload_0 C dX1_init_0 ?_
  refine xobj C k_X1_3 dX1_init_1 (Nat.le_of_ble_eq_true rfl) ?_
  refine xaload_0 C dX1_init_4 ?_
  refine xbipush C (nI 48) dX1_init_5 (by decide) ?_
  refine xnewa_i C 48 dX1_init_7 rfl (by decide) ⟨by decide, by decide⟩ (fun q0 => ?_)
  refine xputF C hin 0 ([(a0, .inr (1, [.ref q0, .null, .null, .null, .null, .null, .null, .int 0, .int 0, .int 0, .int 0])), (q0, .inl (tc 0, 48, .inl (fun _ => 0)))]) fw_X1_9 rfl dX1_init_9 rfl (Nat.le_of_ble_eq_true rfl) rfl rfl rfl ?_
  refine xaload_0 C dX1_init_12 ?_
  refine xbipush C (nI 48) dX1_init_13 (by decide) ?_
  refine xnewa_i C 48 dX1_init_15 rfl (by decide) ⟨by decide, by decide⟩ (fun q1 => ?_)
  refine xputF C hin 0 ([(a0, .inr (1, [.ref q0, .ref q1, .null, .null, .null, .null, .null, .int 0, .int 0, .int 0, .int 0])), (q0, .inl (tc 0, 48, .inl (fun _ => 0))), (q1, .inl (tc 0, 48, .inl (fun _ => 0)))]) fw_X1_15 rfl dX1_init_17 rfl (Nat.le_of_ble_eq_true rfl) rfl rfl rfl ?_
  refine xaload_0 C dX1_init_20 ?_
  refine xbipush C (nI 48) dX1_init_21 (by decide) ?_
  refine xnewa_i C 48 dX1_init_23 rfl (by decide) ⟨by decide, by decide⟩ (fun q2 => ?_)
  refine xputF C hin 0 ([(a0, .inr (1, [.ref q0, .ref q1, .ref q2, .null, .null, .null, .null, .int 0, .int 0, .int 0, .int 0])), (q0, .inl (tc 0, 48, .inl (fun _ => 0))), (q1, .inl (tc 0, 48, .inl (fun _ => 0))), (q2, .inl (tc 0, 48, .inl (fun _ => 0)))]) fw_X1_18 rfl dX1_init_25 rfl (Nat.le_of_ble_eq_true rfl) rfl rfl rfl ?_
  refine xaload_0 C dX1_init_28 ?_
  refine xbipush C (nI 48) dX1_init_29 (by decide) ?_
  refine xnewa_i C 48 dX1_init_31 rfl (by decide) ⟨by decide, by decide⟩ (fun q3 => ?_)
  refine xputF C hin 0 ([(a0, .inr (1, [.ref q0, .ref q1, .ref q2, .ref q3, .null, .null, .null, .int 0, .int 0, .int 0, .int 0])), (q0, .inl (tc 0, 48, .inl (fun _ => 0))), (q1, .inl (tc 0, 48, .inl (fun _ => 0))), (q2, .inl (tc 0, 48, .inl (fun _ => 0))), (q3, .inl (tc 0, 48, .inl (fun _ => 0)))]) fw_X1_21 rfl dX1_init_33 rfl (Nat.le_of_ble_eq_true rfl) rfl rfl rfl ?_
  refine xaload_0 C dX1_init_36 ?_
  refine xbipush C (nI 48) dX1_init_37 (by decide) ?_
  refine xnewa_i C 48 dX1_init_39 rfl (by decide) ⟨by decide, by decide⟩ (fun q4 => ?_)
  refine xputF C hin 0 ([(a0, .inr (1, [.ref q0, .ref q1, .ref q2, .ref q3, .ref q4, .null, .null, .int 0, .int 0, .int 0, .int 0])), (q0, .inl (tc 0, 48, .inl (fun _ => 0))), (q1, .inl (tc 0, 48, .inl (fun _ => 0))), (q2, .inl (tc 0, 48, .inl (fun _ => 0))), (q3, .inl (tc 0, 48, .inl (fun _ => 0))), (q4, .inl (tc 0, 48, .inl (fun _ => 0)))]) fw_X1_24 rfl dX1_init_41 rfl (Nat.le_of_ble_eq_true rfl) rfl rfl rfl ?_
  refine xaload_0 C dX1_init_44 ?_
  refine xbipush C (nI 48) dX1_init_45 (by decide) ?_
  refine xnewa_i C 48 dX1_init_47 rfl (by decide) ⟨by decide, by decide⟩ (fun q5 => ?_)
  refine xputF C hin 0 ([(a0, .inr (1, [.ref q0, .ref q1, .ref q2, .ref q3, .ref q4, .ref q5, .null, .int 0, .int 0, .int 0, .int 0])), (q0, .inl (tc 0, 48, .inl (fun _ => 0))), (q1, .inl (tc 0, 48, .inl (fun _ => 0))), (q2, .inl (tc 0, 48, .inl (fun _ => 0))), (q3, .inl (tc 0, 48, .inl (fun _ => 0))), (q4, .inl (tc 0, 48, .inl (fun _ => 0))), (q5, .inl (tc 0, 48, .inl (fun _ => 0)))]) fw_X1_27 rfl dX1_init_49 rfl (Nat.le_of_ble_eq_true rfl) rfl rfl rfl ?_
  refine xaload_0 C dX1_init_52 ?_
  refine xbipush C (nI 48) dX1_init_53 (by decide) ?_
  refine xnewa_i C 48 dX1_init_55 rfl (by decide) ⟨by decide, by decide⟩ (fun q6 => ?_)
  refine xputF C hin 0 ([(a0, .inr (1, [.ref q0, .ref q1, .ref q2, .ref q3, .ref q4, .ref q5, .ref q6, .int 0, .int 0, .int 0, .int 0])), (q0, .inl (tc 0, 48, .inl (fun _ => 0))), (q1, .inl (tc 0, 48, .inl (fun _ => 0))), (q2, .inl (tc 0, 48, .inl (fun _ => 0))), (q3, .inl (tc 0, 48, .inl (fun _ => 0))), (q4, .inl (tc 0, 48, .inl (fun _ => 0))), (q5, .inl (tc 0, 48, .inl (fun _ => 0))), (q6, .inl (tc 0, 48, .inl (fun _ => 0)))]) fw_X1_30 rfl dX1_init_57 rfl (Nat.le_of_ble_eq_true rfl) rfl rfl rfl ?_
  refine xaload_0 C dX1_init_60 ?_
  refine xiconst C (nI 0) dX1_init_61 (by decide) ?_
  refine xput C 0 ([(a0, .inr (1, [.ref q0, .ref q1, .ref q2, .ref q3, .ref q4, .ref q5, .ref q6, .int (nI 0), .int 0, .int 0, .int 0])), (q0, .inl (tc 0, 48, .inl (fun _ => 0))), (q1, .inl (tc 0, 48, .inl (fun _ => 0))), (q2, .inl (tc 0, 48, .inl (fun _ => 0))), (q3, .inl (tc 0, 48, .inl (fun _ => 0))), (q4, .inl (tc 0, 48, .inl (fun _ => 0))), (q5, .inl (tc 0, 48, .inl (fun _ => 0))), (q6, .inl (tc 0, 48, .inl (fun _ => 0)))]) fw_X1_33 dX1_init_62 rfl (Nat.le_of_ble_eq_true rfl) rfl rfl rfl ?_
  refine xaload_0 C dX1_init_65 ?_
  refine xiconst C (nI 0) dX1_init_66 (by decide) ?_
  refine xput C 0 ([(a0, .inr (1, [.ref q0, .ref q1, .ref q2, .ref q3, .ref q4, .ref q5, .ref q6, .int (nI 0), .int (nI 0), .int 0, .int 0])), (q0, .inl (tc 0, 48, .inl (fun _ => 0))), (q1, .inl (tc 0, 48, .inl (fun _ => 0))), (q2, .inl (tc 0, 48, .inl (fun _ => 0))), (q3, .inl (tc 0, 48, .inl (fun _ => 0))), (q4, .inl (tc 0, 48, .inl (fun _ => 0))), (q5, .inl (tc 0, 48, .inl (fun _ => 0))), (q6, .inl (tc 0, 48, .inl (fun _ => 0)))]) fw_X1_37 dX1_init_67 rfl (Nat.le_of_ble_eq_true rfl) rfl rfl rfl ?_
  refine xaload_0 C dX1_init_70 ?_
  refine xiconst C (nI 0) dX1_init_71 (by decide) ?_
  refine xput C 0 ([(a0, .inr (1, [.ref q0, .ref q1, .ref q2, .ref q3, .ref q4, .ref q5, .ref q6, .int (nI 0), .int (nI 0), .int (nI 0), .int 0])), (q0, .inl (tc 0, 48, .inl (fun _ => 0))), (q1, .inl (tc 0, 48, .inl (fun _ => 0))), (q2, .inl (tc 0, 48, .inl (fun _ => 0))), (q3, .inl (tc 0, 48, .inl (fun _ => 0))), (q4, .inl (tc 0, 48, .inl (fun _ => 0))), (q5, .inl (tc 0, 48, .inl (fun _ => 0))), (q6, .inl (tc 0, 48, .inl (fun _ => 0)))]) fw_X1_40 dX1_init_72 rfl (Nat.le_of_ble_eq_true rfl) rfl rfl rfl ?_
  refine xaload_0 C dX1_init_75 ?_
  refine xiconst C (nI 0) dX1_init_76 (by decide) ?_
  refine xput C 0 ([(a0, .inr (1, [.ref q0, .ref q1, .ref q2, .ref q3, .ref q4, .ref q5, .ref q6, .int (nI 0), .int (nI 0), .int (nI 0), .int (nI 0)])), (q0, .inl (tc 0, 48, .inl (fun _ => 0))), (q1, .inl (tc 0, 48, .inl (fun _ => 0))), (q2, .inl (tc 0, 48, .inl (fun _ => 0))), (q3, .inl (tc 0, 48, .inl (fun _ => 0))), (q4, .inl (tc 0, 48, .inl (fun _ => 0))), (q5, .inl (tc 0, 48, .inl (fun _ => 0))), (q6, .inl (tc 0, 48, .inl (fun _ => 0)))]) fw_X1_43 dX1_init_77 rfl (Nat.le_of_ble_eq_true rfl) rfl rfl rfl ?_
  exact xnret C dX1_init_80 (fun _ k => match k with | 0 => q0 | 1 => q1 | 2 => q2 | 3 => q3 | 4 => q4 | 5 => q5 | _ => q6) rfl
set_option maxHeartbeats 4000000 in
set_option maxRecDepth 100000 in
theorem c_X3_init (l : Launch) (G : va_G) (tc : Nat → ClassId) (a0 : Nat) : kNN l yX3_init (xw yX3_init cX3_init 1 none) 0 4 192 G tc [.ref a0] [(a0, .inr (3, [.null, .null, .null, .null, .int 0]))] (fun u => wM tc (xa a0 (u 0)) (fun _ => 0) (fun _ => 0) (fun _ => 0) (fun _ => 0) 0) := by
  refine kNN_of [some (.ref a0)] 0 (by decide) (Nat.le_of_ble_eq_true rfl) rfl ?_
  intro p e s m args below meth c A C hin
  refine xaload_0 C dX3_init_0 ?_
  refine xobj C k_X3_3 dX3_init_1 (Nat.le_of_ble_eq_true rfl) ?_
  refine xaload_0 C dX3_init_4 ?_
  refine xbipush C (nI 48) dX3_init_5 (by decide) ?_
  refine xnewa_i C 48 dX3_init_7 rfl (by decide) ⟨by decide, by decide⟩ (fun q0 => ?_)
  refine xputF C hin 0 ([(a0, .inr (3, [.ref q0, .null, .null, .null, .int 0])), (q0, .inl (tc 0, 48, .inl (fun _ => 0)))]) fw_X3_9 rfl dX3_init_9 rfl (Nat.le_of_ble_eq_true rfl) rfl rfl rfl ?_
  refine xaload_0 C dX3_init_12 ?_
  refine xbipush C (nI 48) dX3_init_13 (by decide) ?_
  refine xnewa_i C 48 dX3_init_15 rfl (by decide) ⟨by decide, by decide⟩ (fun q1 => ?_)
  refine xputF C hin 0 ([(a0, .inr (3, [.ref q0, .ref q1, .null, .null, .int 0])), (q0, .inl (tc 0, 48, .inl (fun _ => 0))), (q1, .inl (tc 0, 48, .inl (fun _ => 0)))]) fw_X3_15 rfl dX3_init_17 rfl (Nat.le_of_ble_eq_true rfl) rfl rfl rfl ?_
  refine xaload_0 C dX3_init_20 ?_
  refine xbipush C (nI 48) dX3_init_21 (by decide) ?_
  refine xnewa_i C 48 dX3_init_23 rfl (by decide) ⟨by decide, by decide⟩ (fun q2 => ?_)
  refine xputF C hin 0 ([(a0, .inr (3, [.ref q0, .ref q1, .ref q2, .null, .int 0])), (q0, .inl (tc 0, 48, .inl (fun _ => 0))), (q1, .inl (tc 0, 48, .inl (fun _ => 0))), (q2, .inl (tc 0, 48, .inl (fun _ => 0)))]) fw_X3_18 rfl dX3_init_25 rfl (Nat.le_of_ble_eq_true rfl) rfl rfl rfl ?_
  refine xaload_0 C dX3_init_28 ?_
  refine xbipush C (nI 48) dX3_init_29 (by decide) ?_
  refine xnewa_i C 48 dX3_init_31 rfl (by decide) ⟨by decide, by decide⟩ (fun q3 => ?_)
  refine xputF C hin 0 ([(a0, .inr (3, [.ref q0, .ref q1, .ref q2, .ref q3, .int 0])), (q0, .inl (tc 0, 48, .inl (fun _ => 0))), (q1, .inl (tc 0, 48, .inl (fun _ => 0))), (q2, .inl (tc 0, 48, .inl (fun _ => 0))), (q3, .inl (tc 0, 48, .inl (fun _ => 0)))]) fw_X3_21 rfl dX3_init_33 rfl (Nat.le_of_ble_eq_true rfl) rfl rfl rfl ?_
  refine xaload_0 C dX3_init_36 ?_
  refine xiconst C (nI 0) dX3_init_37 (by decide) ?_
  refine xput C 0 ([(a0, .inr (3, [.ref q0, .ref q1, .ref q2, .ref q3, .int (nI 0)])), (q0, .inl (tc 0, 48, .inl (fun _ => 0))), (q1, .inl (tc 0, 48, .inl (fun _ => 0))), (q2, .inl (tc 0, 48, .inl (fun _ => 0))), (q3, .inl (tc 0, 48, .inl (fun _ => 0)))]) fw_X3_24 dX3_init_38 rfl (Nat.le_of_ble_eq_true rfl) rfl rfl rfl ?_
  exact xnret C dX3_init_41 (fun _ k => match k with | 0 => q0 | 1 => q1 | 2 => q2 | _ => q3) rfl
set_option maxHeartbeats 4000000 in
set_option maxRecDepth 100000 in
theorem c_X0_init (l : Launch) (G : va_G) (tc : Nat → ClassId) (a0 : Nat) : kNN l yX0_init (xw yX0_init cX0_init 1 none) 0 2 2449 G tc [.ref a0] [(a0, .inr (0, [.null, .null]))] (fun u => wB tc (xa a0 (u 0)) (fun _ => 0) (fun _ => 0)) := by
  refine kNN_of [some (.ref a0)] 0 (by decide) (Nat.le_of_ble_eq_true rfl) rfl ?_
  intro p e s m args below meth c A C hin
  refine xaload_0 C dX0_init_0 ?_
  refine xobj C k_X0_3 dX0_init_1 (Nat.le_of_ble_eq_true rfl) ?_
  refine xaload_0 C dX0_init_4 ?_
  refine xsipush C (nI 2401) dX0_init_5 (by decide) ?_
  refine xnewa_l C 2401 dX0_init_8 rfl (by decide) ⟨by decide, by decide⟩ (fun q0 => ?_)
  refine xputF C hin 0 ([(a0, .inr (0, [.ref q0, .null])), (q0, .inl (tc 1, 2401, .inr (.inl (fun _ => 0))))]) fw_X0_11 rfl dX0_init_10 rfl (Nat.le_of_ble_eq_true rfl) rfl rfl rfl ?_
  refine xaload_0 C dX0_init_13 ?_
  refine xbipush C (nI 48) dX0_init_14 (by decide) ?_
  refine xnewa_i C 48 dX0_init_16 rfl (by decide) ⟨by decide, by decide⟩ (fun q1 => ?_)
  refine xputF C hin 0 ([(a0, .inr (0, [.ref q0, .ref q1])), (q0, .inl (tc 1, 2401, .inr (.inl (fun _ => 0)))), (q1, .inl (tc 0, 48, .inl (fun _ => 0)))]) fw_X0_15 rfl dX0_init_18 rfl (Nat.le_of_ble_eq_true rfl) rfl rfl rfl ?_
  exact xnret C dX0_init_21 (fun _ k => match k with | 0 => q0 | _ => q1) rfl
def in63 : Nat → Nat → Int32
  | 0 => fun _ => 0
  | k + 1 => upd (in63 k) k 63
set_option maxHeartbeats 4000000 in
set_option maxRecDepth 100000 in
theorem c_X2_init (l : Launch) (G : va_G) (tc : Nat → ClassId) (a0 : Nat) : kNN l yX2_init (xw yX2_init cX2_init 2 none) 0 3 18 G tc [.ref a0] [(a0, .inr (2, [.null, .null, .null, .int 0, .int 0]))] (fun u => wK tc (xa a0 (u 0)) (fun _ => 0) (fun _ => 0) (in63 6) 0 63) := by
  refine kNN_of [some (.ref a0), none] 1 (by decide) (Nat.le_of_ble_eq_true rfl) rfl ?_
  intro p e s m args below meth c A C hin
  refine xaload_0 C dX2_init_0 ?_
  refine xobj C k_X2_3 dX2_init_1 (Nat.le_of_ble_eq_true rfl) ?_
  refine xaload_0 C dX2_init_4 ?_
  refine xbipush C (nI 6) dX2_init_5 (by decide) ?_
  refine xnewa_i C 6 dX2_init_7 rfl (by decide) ⟨by decide, by decide⟩ (fun q0 => ?_)
  refine xputF C hin 0 ([(a0, .inr (2, [.ref q0, .null, .null, .int 0, .int 0])), (q0, .inl (tc 0, 6, .inl (fun _ => 0)))]) fw_X2_9 rfl dX2_init_9 rfl (Nat.le_of_ble_eq_true rfl) rfl rfl rfl ?_
  refine xaload_0 C dX2_init_12 ?_
  refine xbipush C (nI 6) dX2_init_13 (by decide) ?_
  refine xnewa_i C 6 dX2_init_15 rfl (by decide) ⟨by decide, by decide⟩ (fun q1 => ?_)
  refine xputF C hin 0 ([(a0, .inr (2, [.ref q0, .ref q1, .null, .int 0, .int 0])), (q0, .inl (tc 0, 6, .inl (fun _ => 0))), (q1, .inl (tc 0, 6, .inl (fun _ => 0)))]) fw_X2_15 rfl dX2_init_17 rfl (Nat.le_of_ble_eq_true rfl) rfl rfl rfl ?_
  refine xaload_0 C dX2_init_20 ?_
  refine xbipush C (nI 6) dX2_init_21 (by decide) ?_
  refine xnewa_i C 6 dX2_init_23 rfl (by decide) ⟨by decide, by decide⟩ (fun q2 => ?_)
  refine xputF C hin 0 ([(a0, .inr (2, [.ref q0, .ref q1, .ref q2, .int 0, .int 0])), (q0, .inl (tc 0, 6, .inl (fun _ => 0))), (q1, .inl (tc 0, 6, .inl (fun _ => 0))), (q2, .inl (tc 0, 6, .inl (fun _ => 0)))]) fw_X2_18 rfl dX2_init_25 rfl (Nat.le_of_ble_eq_true rfl) rfl rfl rfl ?_
  have loop : ∀ (n k : Nat), k + n = 6 → xAT p l e (xR 0 3 18) s m args below meth c (xQn below args s G A (fun u => wK tc (xa a0 (u 0)) (fun _ => 0) (fun _ => 0) (in63 6) 0 63) 3 18) G A 2 3 18 (wK tc (xa a0 (fun k => match k with | 0 => q0 | 1 => q1 | _ => q2)) (fun _ => 0) (fun _ => 0) (in63 k) 0 0) [some (.ref a0), some (.int (nI k))] 30 [] := by
    intro n
    induction n with
    | zero =>
      intro k hk
      have hk : k = 6 := hk
      subst hk
      refine xiload_1 C dX2_init_30 ?_
      refine xbipush C (6) dX2_init_31 (by decide) ?_
      refine xicmp_ge C (tgt := 50) dX2_init_33 (by decide) (fun h33 => ?_) (fun h33 => ?_)
      · skip
        refine xaload_0 C dX2_init_50 ?_
        refine xiconst C (0) dX2_init_51 (by decide) ?_
        refine xput C 0 (wK tc (xa a0 (fun k => match k with | 0 => q0 | 1 => q1 | _ => q2)) (fun _ => 0) (fun _ => 0) (in63 6) 0 0) fw_X2_21 dX2_init_52 rfl (Nat.le_of_ble_eq_true rfl) rfl rfl rfl ?_
        refine xaload_0 C dX2_init_55 ?_
        refine xbipush C (63) dX2_init_56 (by decide) ?_
        refine xput C 0 (wK tc (xa a0 (fun k => match k with | 0 => q0 | 1 => q1 | _ => q2)) (fun _ => 0) (fun _ => 0) (in63 6) 0 63) fw_X2_25 dX2_init_58 rfl (Nat.le_of_ble_eq_true rfl) rfl rfl rfl ?_
        exact xnret C dX2_init_61 (fun _ k => match k with | 0 => q0 | 1 => q1 | _ => q2) rfl
      · skip
        exact absurd (Int32.le_refl _) h33
    | succ n ih =>
      intro k hk
      have hkl : k < 6 := by omega
      refine xiload_1 C dX2_init_30 ?_
      refine xbipush C (6) dX2_init_31 (by decide) ?_
      refine xicmp_ge C (tgt := 50) dX2_init_33 (by decide) (fun h33 => ?_) (fun h33 => ?_)
      · skip
        exact absurd h33 (nI_ge hkl (by decide))
      · skip
        refine xaload_0 C dX2_init_36 ?_
        refine xget C 0 f_X2_18 dX2_init_37 rfl rfl ?_
        refine xiload_1 C dX2_init_40 ?_
        refine xbipush C (63) dX2_init_41 (by decide) ?_
        refine xiastN C (k) 3 (wK tc (xa a0 (fun k => match k with | 0 => q0 | 1 => q1 | _ => q2)) (fun _ => 0) (fun _ => 0) (in63 (k + 1)) 0 0) dX2_init_43 rfl (hkl) (rfl) (by decide) rfl ?_
        refine xiinc_1 C (nI (k + 1)) dX2_init_44 (nI_1 k) rfl (by decide) ?_
        refine xgoto C (tgt := 30) dX2_init_47 (by decide) ?_
        exact ih (k + 1) (by omega)
  refine xws (w' := wK tc (xa a0 (fun k => match k with | 0 => q0 | 1 => q1 | _ => q2)) (fun _ => 0) (fun _ => 0) (in63 0) 0 0) rfl ?_
  refine xiconst C (nI 0) dX2_init_28 (by decide) ?_
  refine xistore_1 C dX2_init_29 rfl (by decide) ?_
  exact loop 6 0 rfl
set_option maxHeartbeats 4000000 in
set_option maxRecDepth 100000 in
theorem c_X5_init (l : Launch) (G : va_G) (tc : Nat → ClassId) (a0 : Nat) : kNN l yX5_init (xw yX5_init cX5_init 1 none) 1 22 3069 G tc [.ref a0] [(a0, .inr (5, [.null, .null, .null, .null, .null, .int 0]))] (fun u => wO a0 (u 0) (u 1) (u 2) (u 3) (u 4) true ++ (wT tc (u 0) (fun _ => 0) 0 (-1) ++ (wK tc (u 1) (fun _ => 0) (fun _ => 0) (in63 6) 0 63 ++ (wIs tc (u 2) ((fun _ => 0), (fun _ => 0), (fun _ => 0), (fun _ => 0), (fun _ => 0), (fun _ => 0), (fun _ => 0), 0, 0, 0, false) ++ (wM tc (u 3) (fun _ => 0) (fun _ => 0) (fun _ => 0) (fun _ => 0) 0 ++ wB tc (u 4) (fun _ => 0) (fun _ => 0)))))) := by
  refine kNN_of [some (.ref a0)] 0 (by decide) (Nat.le_of_ble_eq_true rfl) rfl ?_
  intro p e s m args below meth c A C hin
  refine xaload_0 C dX5_init_0 ?_
  refine xobj C k_X5_1 dX5_init_1 (Nat.le_of_ble_eq_true rfl) ?_
  refine xaload_0 C dX5_init_4 ?_
  refine xnew C (fs := [.null, .int 0, .int 0]) dX5_init_5 (ci := 4) rfl inlX4 tyX4_ok ck_X5_7 (in_wsL_law0_r1 _ (List.mem_of_getElem? (i := 16) rfl)) (in_wsL_law0_r1 _ (List.mem_of_getElem? (i := 17) rfl)) (fun j hj => by revert j; decide) ⟨by decide, by decide⟩ (fun q0 => ?_)
  refine xdup C dX5_init_8 rfl ?_
  refine xws (w' := ([(a0, .inr (5, [.null, .null, .null, .null, .null, .int 0]))]) ++ ([(q0, .inr (4, [.null, .int 0, .int 0]))] ++ [])) rfl ?_
  refine xcallN C rfl mi_X4_init.1 mi_X4_init.2.1 mi_X4_init.2.2 ⟨by decide +kernel, by decide +kernel, by decide +kernel⟩ (by decide) k_X5_9 (c_X4_init l G tc q0) dX5_init_9 rfl (by decide) rfl (Nat.le_of_ble_eq_true rfl) ⟨by decide, by decide⟩ (fun u0 => ?_)
  refine xputF C hin 0 ([(a0, .inr (5, [.ref q0, .null, .null, .null, .null, .int 0]))] ++ (wT tc (xa q0 (u0 0)) (fun _ => 0) 0 (-1))) fw_X5_10 rfl dX5_init_12 rfl (Nat.le_of_ble_eq_true rfl) rfl rfl rfl ?_
  refine xaload_0 C dX5_init_15 ?_
  refine xnew C (fs := [.null, .null, .null, .int 0, .int 0]) dX5_init_16 (ci := 2) rfl inlX2 tyX2_ok ck_X5_16 (in_wsL_law0_r1 _ (List.mem_of_getElem? (i := 20) rfl)) (in_wsL_law0_r1 _ (List.mem_of_getElem? (i := 21) rfl)) (fun j hj => by revert j; decide) ⟨by decide, by decide⟩ (fun q1 => ?_)
  refine xdup C dX5_init_19 rfl ?_
  refine xws (w' := ([(a0, .inr (5, [.ref q0, .null, .null, .null, .null, .int 0]))] ++ (wT tc (xa q0 (u0 0)) (fun _ => 0) 0 (-1))) ++ ([(q1, .inr (2, [.null, .null, .null, .int 0, .int 0]))] ++ [])) rfl ?_
  refine xcallN C rfl mi_X2_init.1 mi_X2_init.2.1 mi_X2_init.2.2 ⟨by decide +kernel, by decide +kernel, by decide +kernel⟩ (by decide) k_X5_18 (c_X2_init l G tc q1) dX5_init_20 rfl (by decide) rfl (Nat.le_of_ble_eq_true rfl) ⟨by decide, by decide⟩ (fun u1 => ?_)
  refine xputF C hin 0 ([(a0, .inr (5, [.ref q0, .ref q1, .null, .null, .null, .int 0]))] ++ (wT tc (xa q0 (u0 0)) (fun _ => 0) 0 (-1) ++ (wK tc (xa q1 (u1 0)) (fun _ => 0) (fun _ => 0) (in63 6) 0 63))) fw_X5_19 rfl dX5_init_23 rfl (Nat.le_of_ble_eq_true rfl) rfl rfl rfl ?_
  refine xaload_0 C dX5_init_26 ?_
  refine xnew C (fs := [.null, .null, .null, .null, .null, .null, .null, .int 0, .int 0, .int 0, .int 0]) dX5_init_27 (ci := 1) rfl inlX1 tyX1_ok ck_X5_23 (in_wsL_law0_r2 _ (List.mem_of_getElem? (i := 0) rfl)) (in_wsL_law0_r2 _ (List.mem_of_getElem? (i := 1) rfl)) (fun j hj => by revert j; decide) ⟨by decide, by decide⟩ (fun q2 => ?_)
  refine xdup C dX5_init_30 rfl ?_
  refine xws (w' := ([(a0, .inr (5, [.ref q0, .ref q1, .null, .null, .null, .int 0]))] ++ (wT tc (xa q0 (u0 0)) (fun _ => 0) 0 (-1) ++ (wK tc (xa q1 (u1 0)) (fun _ => 0) (fun _ => 0) (in63 6) 0 63))) ++ ([(q2, .inr (1, [.null, .null, .null, .null, .null, .null, .null, .int 0, .int 0, .int 0, .int 0]))] ++ [])) rfl ?_
  refine xcallN C rfl mi_X1_init.1 mi_X1_init.2.1 mi_X1_init.2.2 ⟨by decide +kernel, by decide +kernel, by decide +kernel⟩ (by decide) k_X5_25 (c_X1_init l G tc q2) dX5_init_31 rfl (by decide) rfl (Nat.le_of_ble_eq_true rfl) ⟨by decide, by decide⟩ (fun u2 => ?_)
  refine xputF C hin 0 ([(a0, .inr (5, [.ref q0, .ref q1, .ref q2, .null, .null, .int 0]))] ++ (wT tc (xa q0 (u0 0)) (fun _ => 0) 0 (-1) ++ (wK tc (xa q1 (u1 0)) (fun _ => 0) (fun _ => 0) (in63 6) 0 63 ++ (wI tc (xa q2 (u2 0)) (fun _ => 0) (fun _ => 0) (fun _ => 0) (fun _ => 0) (fun _ => 0) (fun _ => 0) (fun _ => 0) 0 0 0 false)))) fw_X5_26 rfl dX5_init_34 rfl (Nat.le_of_ble_eq_true rfl) rfl rfl rfl ?_
  refine xaload_0 C dX5_init_37 ?_
  refine xnew C (fs := [.null, .null, .null, .null, .int 0]) dX5_init_38 (ci := 3) rfl inlX3 tyX3_ok ck_X5_30 (in_wsL_law0_r2 _ (List.mem_of_getElem? (i := 4) rfl)) (in_wsL_law0_r2 _ (List.mem_of_getElem? (i := 5) rfl)) (fun j hj => by revert j; decide) ⟨by decide, by decide⟩ (fun q3 => ?_)
  refine xdup C dX5_init_41 rfl ?_
  refine xws (w' := ([(a0, .inr (5, [.ref q0, .ref q1, .ref q2, .null, .null, .int 0]))] ++ (wT tc (xa q0 (u0 0)) (fun _ => 0) 0 (-1) ++ (wK tc (xa q1 (u1 0)) (fun _ => 0) (fun _ => 0) (in63 6) 0 63 ++ (wI tc (xa q2 (u2 0)) (fun _ => 0) (fun _ => 0) (fun _ => 0) (fun _ => 0) (fun _ => 0) (fun _ => 0) (fun _ => 0) 0 0 0 false)))) ++ ([(q3, .inr (3, [.null, .null, .null, .null, .int 0]))] ++ [])) rfl ?_
  refine xcallN C rfl mi_X3_init.1 mi_X3_init.2.1 mi_X3_init.2.2 ⟨by decide +kernel, by decide +kernel, by decide +kernel⟩ (by decide) k_X5_32 (c_X3_init l G tc q3) dX5_init_42 rfl (by decide) rfl (Nat.le_of_ble_eq_true rfl) ⟨by decide, by decide⟩ (fun u3 => ?_)
  refine xputF C hin 0 ([(a0, .inr (5, [.ref q0, .ref q1, .ref q2, .ref q3, .null, .int 0]))] ++ (wT tc (xa q0 (u0 0)) (fun _ => 0) 0 (-1) ++ (wK tc (xa q1 (u1 0)) (fun _ => 0) (fun _ => 0) (in63 6) 0 63 ++ (wI tc (xa q2 (u2 0)) (fun _ => 0) (fun _ => 0) (fun _ => 0) (fun _ => 0) (fun _ => 0) (fun _ => 0) (fun _ => 0) 0 0 0 false ++ (wM tc (xa q3 (u3 0)) (fun _ => 0) (fun _ => 0) (fun _ => 0) (fun _ => 0) 0))))) fw_X5_33 rfl dX5_init_45 rfl (Nat.le_of_ble_eq_true rfl) rfl rfl rfl ?_
  refine xaload_0 C dX5_init_48 ?_
  refine xnew C (fs := [.null, .null]) dX5_init_49 (ci := 0) rfl inlX0 tyX0_ok ck_X5_37 (in_wsL_law0_r2 _ (List.mem_of_getElem? (i := 8) rfl)) (in_wsL_law0_r2 _ (List.mem_of_getElem? (i := 9) rfl)) (fun j hj => by revert j; decide) ⟨by decide, by decide⟩ (fun q4 => ?_)
  refine xdup C dX5_init_52 rfl ?_
  refine xws (w' := ([(a0, .inr (5, [.ref q0, .ref q1, .ref q2, .ref q3, .null, .int 0]))] ++ (wT tc (xa q0 (u0 0)) (fun _ => 0) 0 (-1) ++ (wK tc (xa q1 (u1 0)) (fun _ => 0) (fun _ => 0) (in63 6) 0 63 ++ (wI tc (xa q2 (u2 0)) (fun _ => 0) (fun _ => 0) (fun _ => 0) (fun _ => 0) (fun _ => 0) (fun _ => 0) (fun _ => 0) 0 0 0 false ++ (wM tc (xa q3 (u3 0)) (fun _ => 0) (fun _ => 0) (fun _ => 0) (fun _ => 0) 0))))) ++ ([(q4, .inr (0, [.null, .null]))] ++ [])) rfl ?_
  refine xcallN C rfl mi_X0_init.1 mi_X0_init.2.1 mi_X0_init.2.2 ⟨by decide +kernel, by decide +kernel, by decide +kernel⟩ (by decide) k_X5_39 (c_X0_init l G tc q4) dX5_init_53 rfl (by decide) rfl (Nat.le_of_ble_eq_true rfl) ⟨by decide, by decide⟩ (fun u4 => ?_)
  refine xputF C hin 0 ([(a0, .inr (5, [.ref q0, .ref q1, .ref q2, .ref q3, .ref q4, .int 0]))] ++ (wT tc (xa q0 (u0 0)) (fun _ => 0) 0 (-1) ++ (wK tc (xa q1 (u1 0)) (fun _ => 0) (fun _ => 0) (in63 6) 0 63 ++ (wI tc (xa q2 (u2 0)) (fun _ => 0) (fun _ => 0) (fun _ => 0) (fun _ => 0) (fun _ => 0) (fun _ => 0) (fun _ => 0) 0 0 0 false ++ (wM tc (xa q3 (u3 0)) (fun _ => 0) (fun _ => 0) (fun _ => 0) (fun _ => 0) 0 ++ (wB tc (xa q4 (u4 0)) (fun _ => 0) (fun _ => 0))))))) fw_X5_40 rfl dX5_init_56 rfl (Nat.le_of_ble_eq_true rfl) rfl rfl rfl ?_
  refine xaload_0 C dX5_init_59 ?_
  refine xiconst C (1) dX5_init_60 (by decide) ?_
  refine xput C 0 ([(a0, .inr (5, [.ref q0, .ref q1, .ref q2, .ref q3, .ref q4, .int (bI true)]))] ++ (wT tc (xa q0 (u0 0)) (fun _ => 0) 0 (-1) ++ (wK tc (xa q1 (u1 0)) (fun _ => 0) (fun _ => 0) (in63 6) 0 63 ++ (wI tc (xa q2 (u2 0)) (fun _ => 0) (fun _ => 0) (fun _ => 0) (fun _ => 0) (fun _ => 0) (fun _ => 0) (fun _ => 0) 0 0 0 false ++ (wM tc (xa q3 (u3 0)) (fun _ => 0) (fun _ => 0) (fun _ => 0) (fun _ => 0) 0 ++ (wB tc (xa q4 (u4 0)) (fun _ => 0) (fun _ => 0))))))) fw_X5_44 dX5_init_61 rfl (Nat.le_of_ble_eq_true rfl) rfl rfl rfl ?_
  exact xnret C dX5_init_64 (fun j => match j with | 0 => xa q0 (u0 0) | 1 => xa q1 (u1 0) | 2 => xa q2 (u2 0) | 3 => xa q3 (u3 0) | _ => xa q4 (u4 0)) rfl
