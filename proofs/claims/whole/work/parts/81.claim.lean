/-! THE CLAIM OUT OF ONE WALK OF THE LAW'S BODY. Your part is whole_start (and what it stands on); all else here is the same for every law, but numbers. -/
def R_law : String := "IslandParserLaw"
def lw_P (b : Addr) (xs : List Int32) (args : Array Value) (s : State) : Prop := args = #[.ref b] ∧ s.IntsAt b xs ∧ xs.length ≤ 2560 ∧ (Jvm.Cond.and given_1 narrow_1).before args s = true
/-- what a walk over the start with the record d0 says of its end, said of the start itself -/
theorem lw_closed {s t : State} {o : Outcome} {d0 : Drawn} {L : List Loc} {k n : Nat} (hd0 : s.drawn.sameBut d0 lw_cs) (hv : ∃ v, o = .returned v) (hW : (s.setDrawn d0).WarmedH t.vm) (hs : (s.setDrawn d0).sameButNew ({ t with vm := s.vm } : State) L k n) : State.butDraws s t lw_cs (fun t1 => Framed s o t1 L k n) := by
  have h2 : t.drawn = d0 := congrArg State.drawn hs.1
  refine ⟨⟨hv, hW, State.sameButNew.setDrawn hs s.drawn⟩, ?_, by decide⟩
  rw [h2]
  exact hd0
def lw_Q (_ : Array Value) (s : State) (o : Outcome) (t : State) : Prop := o = .returned (some (.int 1)) ∧ State.butDraws s t lw_cs (fun t1 => Framed s o t1 [] 601024 7293034)
def lw_Z (below : List Frame) (a : Array Value) (s : State) : State → Prop := fun t => ∃ o, t.status = .running ∧ Ended t below o ∧ lw_Q a s o t
/-- the law's own end, with 1 on the stack, nothing written that was there before, its room as the claim has it; d0: the record of draws at this point (at the entry s.drawn: begin with 'refine W.base ?_' and 'have hd0 := Drawn.sameBut.refl s.drawn lw_cs') -/
theorem lw_ret {p : Program} {l : Launch} {e : Env} {s : State} {m : MethodId} {below : List Frame} {meth : Method} {c : Code} {b : Nat} {d0 : Drawn} (hd0 : s.drawn.sameBut d0 lw_cs) (hx : p.tables.exec = Jvm.exec) (hb : c.code = code) (hr : meth.sig.returnType = ret) (hlocks : meth.locks = false) {pc : Nat} {H : Heap} {ls : Array Slot} (hdg : decode code pc = .ok (.ireturn, 1)) : W p l e room_1 (s.setDrawn d0) m #[Value.ref b] below meth c H [] 601024 7293034 (lw_Z below #[Value.ref b] s) (F0 m pc ls [.int 1]) := by
  intro T hT X
  obtain ⟨fs, hret, hrun, hended, hW, hframe⟩ := X.leave (v := some (.int 1)) (hlocks := hlocks) (fun h => by rw [hr] at h; cases h)
  have hmeth' : T.vm.method? m = some meth := X.method'
  refine ⟨T.setFrames fs, ?_, .returned (some (.int 1)), hrun, hended, rfl, lw_closed hd0 ⟨_, rfl⟩ hW hframe⟩
  jvm_step X.here [X.here.top, hx, hb, hdg, hmeth', hr, ret, narrow_b1]
  (try refine ⟨rfl, ?_⟩); (try refine ⟨rfl, ?_⟩)
  first | (intro acts; rw [hret _ acts rfl rfl rfl]) | rw [hret _ _ rfl rfl rfl]
  exact Steps.refl _
/-- what holds at the law's entry: the machine, the code, the tables' words (any of lw_tbl by 'hts w (by decide +kernel)'), the script of L ints xs at the cell b, what the Statement gives of the start (any of its parts by flat_of_before) -/
def lw_At (p : Program) (s : State) (m : MethodId) (meth : Method) (c : Code) (b L : Nat) (xs : Nat → Int32) : Prop :=
  p.tables.exec = Jvm.exec ∧ c.code = code ∧ meth.sig.returnType = ret ∧ c.maxLocals = 9 ∧ s.vm.findClass R_law = some m.cls ∧ (∀ w ∈ lw_tbl, w.before #[Value.ref b] s = true) ∧ va_X b L xs s s.heap ∧ b < s.heap.size ∧ meth.locks = false ∧ (Jvm.Cond.and given_1 narrow_1).before #[Value.ref b] s = true
/-! what the tables say at the entry -/
theorem xE_of {s : State} {args : Array Value} (hts : ∀ w ∈ lw_tbl, w.before args s = true) (hgv : (Jvm.Cond.and given_1 narrow_1).before args s = true) : ∃ (G : va_G) (tc : Nat → ClassId), xE G tc s := by
  have hw : ∀ w ∈ wsL_law, w.before args s = true := fun w h => hts w (wsL_law_in w h)
  have hs := flat_of_before _ hgv
  obtain ⟨c0, i0, k0⟩ := u_known (n := 2) hw inlX0 (hw _ (in_wsL_law0_r2 _ (List.mem_of_getElem? (i := 8) rfl)))
  obtain ⟨c1, i1, k1⟩ := u_known (n := 11) hw inlX1 (hw _ (in_wsL_law0_r2 _ (List.mem_of_getElem? (i := 0) rfl)))
  obtain ⟨c2, i2, k2⟩ := u_known (n := 5) hw inlX2 (hw _ (in_wsL_law0_r1 _ (List.mem_of_getElem? (i := 20) rfl)))
  obtain ⟨c3, i3, k3⟩ := u_known (n := 5) hw inlX3 (hw _ (in_wsL_law0_r2 _ (List.mem_of_getElem? (i := 4) rfl)))
  obtain ⟨c4, i4, k4⟩ := u_known (n := 3) hw inlX4 (hw _ (in_wsL_law0_r1 _ (List.mem_of_getElem? (i := 16) rfl)))
  obtain ⟨c5, i5, k5⟩ := u_known (n := 6) hw inlX5 (hw _ (in_wsL_law0_r1 _ (List.mem_of_getElem? (i := 1) rfl)))
  obtain ⟨c6, i6, k6⟩ := u_known (n := 24) hw inlX6 (hw _ (in_wsL_law0_r1 _ (List.mem_of_getElem? (i := 4) rfl)))
  obtain ⟨a0, kA0, m0, f0, g0, h0⟩ := Cond.arrayClass_spec (hw (.arrayClass .int) (in_wsL_law0_r2 _ (List.mem_of_getElem? (i := 16) rfl)))
  obtain ⟨a1, kA1, m1, f1, g1, h1⟩ := Cond.arrayClass_spec (hw (.arrayClass .long) (in_wsL_law0_r1 _ (List.mem_of_getElem? (i := 6) rfl)))
  obtain ⟨a2, kA2, m2, f2, g2, h2⟩ := Cond.arrayClass_spec (hw (.arrayClass .boolean) (in_wsL_law0_r4 _ (List.mem_of_getElem? (i := 20) rfl)))
  obtain ⟨a3, kA3, m3, f3, g3, h3⟩ := Cond.arrayClass_spec (hw (.arrayClass .double) (in_wsL_law0_r1 _ (List.mem_of_getElem? (i := 7) rfl)))
  refine ⟨(fun k => match k with | 0 => c0 | 1 => c1 | 2 => c2 | 3 => c3 | 4 => c4 | 5 => c5 | _ => c6, fun k => match k with | 0 => i0 | 1 => i1 | 2 => i2 | 3 => i3 | 4 => i4 | 5 => i5 | _ => i6), fun k => match k with | 0 => a0 | 1 => a1 | 2 => a2 | _ => a3, ⟨fun k q hq => ?_, fun k q hq => ?_⟩, ?_, ?_, ?_, ?_, ?_, ?_⟩
  · match k, hq with
    | 0, hq => cases hq; exact k0
    | 1, hq => cases hq; exact k1
    | 2, hq => cases hq; exact k2
    | 3, hq => cases hq; exact k3
    | 4, hq => cases hq; exact k4
    | 5, hq => cases hq; exact k5
    | 6, hq => cases hq; exact k6
    | k + 7, hq => cases hq
  · match k, hq with
    | 0, hq => cases hq; exact ⟨fun n z => ⟨fun k h => (by cases h), kA0, g0, m0, h0⟩, f0⟩
    | 1, hq => cases hq; exact ⟨fun n z => ⟨fun k h => (by cases h), kA1, g1, m1, h1⟩, f1⟩
    | 2, hq => cases hq; exact ⟨fun n z => ⟨fun k h => (by cases h), kA2, g2, m2, h2⟩, f2⟩
    | 3, hq => cases hq; exact ⟨fun n z => ⟨fun k h => (by cases h), kA3, g3, m3, h3⟩, f3⟩
    | k + 4, hq => cases hq
  · exact va_Nw.of rfl (hts (.methodLinkNest RX0 33 yX5_holdsKind RX5) (by decide +kernel))
  · exact va_Nw.of rfl (hts (.methodLinkNest RX2 36 yX5_holdsKind RX5) (by decide +kernel))
  · have hstr : ∀ q ∈ xStr, Cond.stringRef RX5 q.1 q.2 ∈ lw_tbl := by decide +kernel
    intro q hq
    have hb : (Cond.stringRef RX5 q.1 q.2).before #[] s = true := hts _ (hstr q hq)
    obtain ⟨-, -, -, sa, -, -, -, -, -, hev⟩ := Cond.stringRef_spec k5.2.1 hb
    exact ⟨sa, hb, hev⟩
  · have hc : ∀ q ∈ xCst, Cond.castable q q ∈ lw_tbl := by decide +kernel
    exact fun q hq => va_Nw.of rfl (hts _ (hc q hq))
  · intro q hq
    refine va_Nc.of (args := args) (hs _ ?_)
    revert q
    decide +kernel
  · have hc : ∀ q ∈ xDcl, Cond.declares q ∈ lw_tbl := by decide +kernel
    exact fun q hq => va_Nw.of rfl (hts _ (hc q hq))
theorem xZ_of {s : State} {args : Array Value} (hts : ∀ w ∈ lw_tbl, w.before args s = true) (hgv : (Jvm.Cond.and given_1 narrow_1).before args s = true) : xZ (fun q : Nat => s.heap.size ≤ q) s s.heap := by
  have hs := flat_of_before _ hgv
  exact ⟨vx_Zqof (hts _ (by decide +kernel)) (hts _ (by decide +kernel)) (hs _ (by decide +kernel)) (fun a h => Nat.not_le.mpr h), vx_Zqof (hts _ (by decide +kernel)) (hts _ (by decide +kernel)) (hs _ (by decide +kernel)) (fun a h => Nat.not_le.mpr h)⟩
/-! the first states -/
def S0 : CS := (true, fun _ => 0, 0, -1, fun _ => 0, fun _ => 0, in63 6, 0, 63, ((fun _ => 0), (fun _ => 0), (fun _ => 0), (fun _ => 0), (fun _ => 0), (fun _ => 0), (fun _ => 0), 0, 0, 0, false), ((fun _ => 0), (fun _ => 0), (fun _ => 0), (fun _ => 0), 0), fun _ => 0, fun _ => 0)
def T0 : RS := (0, 0, fun _ => 0, -1, true, fun _ => 0, fun _ => 0, fun _ => false, zo6, in63 6, ((fun _ => 0), (fun _ => 0), (fun _ => 0), (fun _ => 0), (fun _ => 0), (fun _ => 0), (fun _ => 0), 0, 0, 0, false), 0, fun _ => 0, fun _ => 0, fun _ => 0)
theorem Rel_0 : Rel S0 T0 := by
  refine ⟨rfl, rfl, Nat.zero_le _, rfl, rfl, rfl, ⟨fun w => Nat.zero_le _, fun w _ k hk9 => absurd hk9 (Nat.not_lt_zero k), fun k _ => ⟨rfl, rfl⟩⟩, ?_, fun x hx => absurd hx (Nat.not_lt_zero x), rfl, Nat.zero_le _, rfl, rfl, fun k hk9 => absurd hk9 (Nat.not_lt_zero k), fun k hk9 => absurd hk9 (Nat.not_lt_zero k), fun z => absurd z Bool.false_ne_true⟩
  show ∀ k, k < 6 → bt 0 k = false ∧ bt 63 k = zo6 k
  decide +kernel
/-! the walk -/
section XST
variable {p : Program} {l : Launch} {e : Env} {s : State} {m : MethodId} {below : List Frame} {meth : Method} {c : Code} {G : va_G} {tc : Nat → ClassId}
theorem lw_end {b : Nat} (C : CX p room_1 s m #[Value.ref b] meth c cL_law 9 RL (some .boolean) G tc (fun q : Nat => s.heap.size ≤ q) 60) (ws : va_W) (lv : List (Option Value)) : xAT p l e room_1 s m #[Value.ref b] below meth c (lw_Z below #[Value.ref b] s) G (fun q : Nat => s.heap.size ≤ q) 9 601024 7293034 ws lv 1631 [.int 1] := fun H locs ls hP hD hS hl =>
  va_forget (fun q hq => hS.2.2 q hq) (W.base (lw_ret (Drawn.sameBut.refl s.drawn lw_cs) C.1 C.2.1 C.rt C.lock dL_law_1631))
set_option maxHeartbeats 4000000 in
set_option maxRecDepth 100000 in
theorem lw_begin (hl9 : l.stackTraces = false) {b L : Nat} {xs : Nat → Int32} (C : CX p room_1 s m #[Value.ref b] meth c cL_law 9 RL (some .boolean) G tc (fun q : Nat => s.heap.size ≤ q) 60) (hX : va_X b L xs s s.heap) (hbl : b < s.heap.size) (hL : L ≤ 2560) : xAT p l e room_1 s m #[Value.ref b] below meth c (lw_Z below #[Value.ref b] s) G (fun q : Nat => s.heap.size ≤ q) 9 0 0 [] [some (.ref b), none, none, none, none, none, none, none, none] 0 [] := by
  refine xnew C (fs := [.null, .null, .null, .null, .null, .int 0]) dL_law_0 (ci := 5) rfl inlX5 tyX5_ok ck_L_8 (in_wsL_law0_r1 _ (List.mem_of_getElem? (i := 1) rfl)) mi_X5_init.2.1 (fun j hj => by revert j; decide) ⟨Nat.le_of_ble_eq_true rfl, Nat.le_of_ble_eq_true rfl⟩ (fun a0 => ?_)
  refine xdup C dL_law_3 rfl ?_
  refine xws (w' := [] ++ ([(a0, .inr (5, [.null, .null, .null, .null, .null, .int 0]))] ++ [])) rfl ?_
  refine xcallN C rfl mi_X5_init.1 mi_X5_init.2.1 mi_X5_init.2.2 ⟨by decide +kernel, by decide +kernel, by decide +kernel⟩ (by decide) k_L_85 (c_X5_init l G tc a0) dL_law_4 rfl (by decide) rfl (Nat.le_of_ble_eq_true rfl) ⟨Nat.le_of_ble_eq_true rfl, Nat.le_of_ble_eq_true rfl⟩ (fun u => ?_)
  refine xws (w' := wF tc a0 u S0) rfl ?_
  refine xastore_1 C dL_law_7 rfl (by decide) ?_
  refine xnew C (fs := [.int 0, .int 0, .null, .int 0, .int 0, .null, .null, .null, .null, .null, .int 0, .int 0, .int 0, .null, .null, .null, .null, .null, .int 0, .null, .int 0, .null, .null, .null]) dL_law_8 (ci := 6) rfl inlX6 tyX6_ok ck_L_86 (in_wsL_law0_r1 _ (List.mem_of_getElem? (i := 4) rfl)) mi_X6_init.2.1 (fun j hj => by revert j; decide) ⟨Nat.le_of_ble_eq_true rfl, Nat.le_of_ble_eq_true rfl⟩ (fun q1 => ?_)
  refine xdup C dL_law_11 rfl ?_
  refine xws (w' := wF tc a0 u S0 ++ ([(q1, .inr (6, [.int 0, .int 0, .null, .int 0, .int 0, .null, .null, .null, .null, .null, .int 0, .int 0, .int 0, .null, .null, .null, .null, .null, .int 0, .null, .int 0, .null, .null, .null]))] ++ [])) rfl ?_
  refine xcallN C rfl mi_X6_init.1 mi_X6_init.2.1 mi_X6_init.2.2 ⟨by decide +kernel, by decide +kernel, by decide +kernel⟩ (by decide) k_L_88 (c_X6_init l G tc q1) dL_law_12 rfl (by decide) rfl (Nat.le_of_ble_eq_true rfl) ⟨Nat.le_of_ble_eq_true rfl, Nat.le_of_ble_eq_true rfl⟩ (fun u1 => ?_)
  refine xws (w' := wF tc a0 u S0 ++ wXs tc (xa q1 (u1 0)) T0) rfl ?_
  refine xastore_2 C dL_law_15 rfl (by decide) ?_
  refine xiconst C (1) dL_law_16 (by decide) ?_
  refine xnewa_l C 1 dL_law_17 rfl (by decide) ⟨Nat.le_of_ble_eq_true rfl, Nat.le_of_ble_eq_true rfl⟩ (fun qo => ?_)
  refine xastore_3 C dL_law_19 rfl (by decide) ?_
  refine xiconst C (1) dL_law_20 (by decide) ?_
  refine xnewa_d C 1 dL_law_21 rfl (by decide) ⟨Nat.le_of_ble_eq_true rfl, Nat.le_of_ble_eq_true rfl⟩ (fun qd => ?_)
  refine xastore_4 C dL_law_23 rfl (by decide) ?_
  refine xiconst C (0) dL_law_25 (by decide) ?_
  refine xistore_5 C dL_law_26 rfl (by decide) ?_
  have K := lw_loop (e := e) (below := below) (Q := lw_Z below #[Value.ref b] s) hl9 C hX hbl (Nat.not_le.mpr hbl) (Nat.lt_of_le_of_lt hL (Nat.le_of_ble_eq_true rfl)) qo qd a0 u (xa q1 (u1 0)) (kc := 601024) (ks := 7293034) ⟨Nat.le_of_ble_eq_true rfl, Nat.le_of_ble_eq_true rfl⟩ (fun ws lv => lw_end C ws lv) 512 0 41 20366 (fun _ => 0) (fun _ => 0) S0 T0 Rel_0 (Nat.le_of_ble_eq_true rfl) (by omega) (Nat.le_of_ble_eq_true rfl) (Nat.le_of_ble_eq_true rfl)
  intro H locs ls hP hD hS hl
  exact K H locs ls (hP.sub [39, 0, 1, 2, 3, 4, 5, 6, 7, 8, 9, 10, 11, 12, 13, 14, 15, 16, 17, 18, 19, 20, 21, 22, 40, 23, 24, 25, 26, 27, 28, 29, 30, 31, 32, 33, 34, 35, 36, 37, 38] rfl) (hD.sub [39, 0, 1, 2, 3, 4, 5, 6, 7, 8, 9, 10, 11, 12, 13, 14, 15, 16, 17, 18, 19, 20, 21, 22, 40, 23, 24, 25, 26, 27, 28, 29, 30, 31, 32, 33, 34, 35, 36, 37, 38] (by decide) rfl) hS hl
end XST
theorem whole_start {p : Program} {e : Env} {s : State} {m : MethodId} {below : List Frame} {meth : Method} {c : Code} (l : Launch) (hflags : l.flags = flags0) {b L : Nat} {xs : Nat → Int32} (hL : L ≤ 2560) (C0 : lw_At p s m meth c b L xs) : W p l e room_1 s m #[Value.ref b] below meth c s.heap [] 0 0 (lw_Z below #[Value.ref b] s) (entryFrame m ([Value.ref b] : List Value).toArray 9) := by
  obtain ⟨hx, hb, hr, hml, hown, hts, hX, hbl, hlocks, hgv⟩ := C0
  obtain ⟨G, tc, hE⟩ := xE_of hts hgv
  have hl9 : l.stackTraces = false := by
    rw [Launch.stackTraces, hflags]
    decide +kernel
  have C : CX p room_1 s m #[Value.ref b] meth c cL_law 9 RL (some .boolean) G tc (fun q : Nat => s.heap.size ≤ q) 60 := ⟨hx, hb, hml, hown, fun w h => hts w (wsL_law_in w h), hr, hlocks, hE, xZ_of hts hgv, fun q h => h, Nat.le_of_ble_eq_true rfl, Nat.le_of_ble_eq_true rfl⟩
  obtain ⟨ls, he, hl⟩ := xentry m [Value.ref b] 9 (Nat.le_of_ble_eq_true rfl) (lv := [some (.ref b), none, none, none, none, none, none, none, none]) (fun i v h => by
    have := xargs_mem 8 [Value.ref b] 0 i v h
    rwa [Nat.zero_add] at this)
  rw [he]
  exact lw_begin hl9 C hX hbl hL s.heap [] ls (fun k q hq => by cases hq) ⟨fun i j x y hx => (by cases hx), fun k q hq => (by cases hq)⟩ va_S.rf hl
set_option maxHeartbeats 4000000 in
theorem lw_walk (l : Launch) (hflags : l.flags = flags0) (b : Addr) (xs : List Int32) : MetFree l x (headSpec (Jvm.Cond.code x code maxLocals ret :: tables_1) room_1) (lw_P b xs) (fun _ _ _ _ _ => True) lw_Q := by
  refine MetFree.of_bodyS (code := code) (maxLocals := maxLocals) (ret := ret) (by decide) ?_ ?_
  · intro args s m h hn
    obtain ⟨meth, c, h1, h2, h3, h4, h5, h6, -, -⟩ := Cond.code_spec hn (atoms_spec (ws := Jvm.Cond.code x code maxLocals ret :: tables_1) h _ List.mem_cons_self)
    exact ⟨meth, c, h1, h2, h3, h4, h5, h6⟩
  · intro p e s m args below meth c s₁ B hml0 hP _
    obtain ⟨rfl, hx, hbd, hgv⟩ := hP
    obtain ⟨scr, harrAt, hlist, hof, hsmall⟩ := hx
    obtain ⟨hcb, hkn, -, -⟩ := State.arrayAt?_spec harrAt
    have hown : s.vm.findClass R_law = some m.cls := findClass_of_methodNamed B.named
    have hts0 : ∀ c ∈ (Jvm.Cond.code x code maxLocals ret :: tables_1), c.before #[Value.ref b] s = true := atoms_spec (ws := Jvm.Cond.code x code maxLocals ret :: tables_1) B.pre
    have hts : ∀ w ∈ lw_tbl, w.before #[Value.ref b] s = true := k2_hts_sels lw_privs (fun w hw => hts0 w (List.mem_cons_of_mem _ hw)) lw_privs_ok
    have hml : c.maxLocals = 9 := B.maxLocals_eq (hts0 _ List.mem_cons_self)
    have X₀ : Stand p l e room_1 s m #[Value.ref b] below meth c s₁ [] 0 0 := Stand.of_body B
    have hh0 : s₁.heap = s.heap := by rw [B.state]; rfl
    have hsz : scr.slots.size = xs.length := by rw [← Array.length_toList, hlist, List.length_map]
    have hval : ∀ j : Nat, j < xs.length → scr.slots[j]? = some (.int (xs.getD j 0)) := fun j hj => by
      rw [← Array.getElem?_toList, hlist]
      simp [hj]
    have hbl : b < s.heap.size := (Array.getElem?_eq_some_iff.mp hcb).1
    have hX : va_X b xs.length (fun j => xs.getD j 0) s s.heap := ⟨scr, hcb, hof, hkn, hsz, hval⟩
    have K : W p l e room_1 s m #[Value.ref b] below meth c s₁.heap [] 0 0 (lw_Z below #[Value.ref b] s) (entryFrame m ([Value.ref b] : List Value).toArray 9) := by
      rw [hh0]
      exact whole_start l hflags hbd ⟨B.exec, B.bytes, B.returns, hml, hown, hts, hX, hbl, B.notSynchronized, hgv⟩
    obtain ⟨t, a1, o, b1, b2, b3⟩ := K s₁ rfl X₀
    exact ⟨t, o, a1, b1, b2, b3⟩
theorem lw_pre_spec {args : Array Value} {s : State} (h : (Jvm.Cond.and given_1 narrow_1).before args s = true) (hr : rest_1_c.before args s = true) : ∃ (b : Addr) (xs : List Int32), lw_P b xs args s := by
  have hs := flat_of_before _ h
  have hq := flat_of_before _ hr
  have hc : (Cond.count 1).before args s = true := hs _ (by decide +kernel)
  have harr : (Cond.arrayOf (.arg 0) .int).before args s = true := hs _ (by decide +kernel)
  have hle : (Cond.le (.length (.arg 0)) (.int 2560)).before args s = true := hs _ (by decide +kernel)
  have hlen : (Cond.isInt (.length (.arg 0))).before args s = true := hq _ (by decide +kernel)
  have hall : (Cond.all (.arg 0) (.isInt (.elem (.arg 0) (.index 0)))).before args s = true := hq _ (by decide +kernel)
  obtain ⟨b, xs, hb, hx⟩ := State.ints_of_pre rfl harr hlen hall
  have hsm : xs.length < 2 ^ 31 := hx.choose_spec.2.2.2
  have hev : (Term.length (.arg 0)).eval args s none [] s = some (.int xs.length.toInt32) := hx.length_eval hb
  have hv := Cond.le_ints hev (show (Term.int 2560).eval args s none [] s = some (.int 2560) from rfl)
  have hd : xs.length.toInt32 ≤ 2560 := by
    simpa [Cond.before, Cond.holds, hv] using hle
  have hN : xs.length ≤ 2560 := (Int32.ofNat_le_ofNat hsm (by decide)).mp (show Int32.ofNat xs.length ≤ Int32.ofNat 2560 from hd)
  exact ⟨b, xs, Cond.one_arg hc (show args[0]? = some (.ref b) from hb), hx, hN, h⟩
theorem lw_comes (l : Launch) (hflags : l.flags = flags0) : Comes l x (Jvm.Cond.code x code maxLocals ret :: tables_1) room_1 (fun tb e args s => Calls_1 tb e args s ∧ rest_1 tb e args s ∧ Pre_1 tb e args s)
    (fun _ _ args s o t => lw_Q args s o t) := by
  intro p e ha hc hk s m args below hf hfit hheap happ hpre
  obtain ⟨b, xs, hP⟩ := lw_pre_spec hpre.2.2 hpre.2.1
  obtain ⟨k, o, h1, h2, h3, hQ⟩ := lw_walk l hflags b xs p e ha hc hk s m args below hf ((Spec.applies_iff_loose hf).mp happ).1 hP trivial
  exact ⟨k, o, h1, h2, h3, hQ⟩
theorem lw_frame {s t : State} {o : Outcome} {args : Array Value} (h : State.butDraws s t lw_cs (fun t1 => Framed s o t1 [] 601024 7293034)) :
    State.butDraws s t [Jvm.Choice.named "NaN.bits"] (fun t1 => Framed s o t1 (fieldLocs frame_1_writes args s ++ arrayLocs frame_1_arrays args s ++ staticLocs frame_1_statics s) 601024 7293034) := h
theorem lw_limb (L : Cond) (hL : ∀ (args : Array Value) (s t : State), L.after args s (.returned (some (.int 1))) t = true) :
    ArmFor flags0 classFile x code maxLocals ret World_1 tables_1 room_1 Calls_1 rest_1 Pre_1
      (fun tb e a s o t => postC L tb e a s o t ∧ State.butDraws s t [Jvm.Choice.named "NaN.bits"] (fun t1 => Framed s o t1 (fieldLocs frame_1_writes a s ++ arrayLocs frame_1_arrays a s ++ staticLocs frame_1_statics s) 601024 7293034)) := by
  intro l hflags _ _ p e ha hc hk s m args below hf hfit hheap happ hpre
  obtain ⟨k, o, h1, h2, h3, rfl, hF⟩ := lw_comes l hflags p e ha hc hk s m args below hf hfit hheap happ hpre
  exact ⟨k, _, h1, h2, h3, hL args s _, lw_frame hF⟩
theorem i_vc : Claimed_1_1 ∧ Claimed_1_2 := ⟨lw_limb limb_1_1 (fun args s t => by simp [limb_1_1, Cond.after, Cond.holds, Cond.value]), lw_limb limb_1_2 (fun args s t => Cond.after_iff.mpr (by
  first | (rw [show limb_1_2 = Cond.eq .result (.int 1) from rfl, Cond.eq_ints (x := 1) (y := 1) rfl rfl]; simp; done) | (simp [limb_1_2, Cond.value, Term.eval]; done)))⟩
