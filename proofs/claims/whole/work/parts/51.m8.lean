/-! the reference's best reading, and what it answers of islands -/
theorem fmMG_ok {b : Nat → Int32} {n : Nat} {ec : Int32} {zs : Nat → Nat} {zw : Nat → Int32} (hz : ∀ w, zs w ≤ 3) (hn : n ≤ 48) : ∀ (f j : Nat) (q : Nat × (Nat → Nat) × (Nat → Nat)), q.1 ≤ j → mOk q.1 q.2.1 q.2.2 → mOk (fmMG b n ec zs zw f j q).1 (fmMG b n ec zs zw f j q).2.1 (fmMG b n ec zs zw f j q).2.2
  | 0, _, _, _, h => h
  | f + 1, j, q, hq, h => by
    rw [fmMG]
    by_cases hj : j < n
    · rw [if_pos hj]
      by_cases he : b j = ec
      · rw [if_pos he]
        exact fmMG_ok hz hn f (j + 2) q (by omega) h
      · rw [if_neg he]
        have h1 := mxx_1 (mlM b n ec zs zw j)
        have h3 : mlM b n ec zs zw j ≤ 3 := mlMG_le hz 6 0 0 (by decide)
        rw [fmMS]
        by_cases hl : mlM b n ec zs zw j = 0
        · rw [if_pos hl]
          exact fmMG_ok hz hn f _ q (by omega) h
        · rw [if_neg hl]
          refine fmMG_ok hz hn f _ _ (by show q.1 + 1 ≤ _; omega) ⟨by show q.1 + 1 ≤ 48; omega, fun x hx => ?_⟩
          have hx : x < q.1 + 1 := hx
          show updN q.2.1 q.1 j x ≤ 48 ∧ updN q.2.2 q.1 (mlM b n ec zs zw j) x ≤ 3
          rw [updN, updN]
          by_cases hxq : x = q.1
          · rw [if_pos hxq, if_pos hxq]
            omega
          · rw [if_neg hxq, if_neg hxq]
            exact h.2 x (by omega)
    · rw [if_neg hj]
      exact h
def bs0 (i : IS) (x : Nat) : IS := (iK i, iA i, iE i, iT i, iP i, iD i, iO i, 0, iQ i, x, iR i)
def bsR (b : Nat → Int32) (n : Nat) (ec : Int32) (zs : Nat → Nat) (zw : Nat → Int32) (zr zo : Nat → Bool) (zi : Nat → Int32) (mp mz : Nat → Nat) (mm : Nat) (u : Nat → Nat) (i : IS) : IS := setRd (tkG (pkF b n ec zs zw zr zo zi mp mz u) zr mp mz 48 0 mm 6 (-1) (bs0 i (u (atN 0 mm 6)))) true
def pOk (ip : Nat → Int32) (im : Nat) : Prop := ∀ k, k < im → ip k = -1 ∨ ∃ t, t < k ∧ ip k = nI t
def dpG (ip : Nat → Int32) : Nat → Int32 → Nat
  | 0, _ => 0
  | f + 1, x => if x = -1 then 0 else dpG ip f (ip x.toNatClampNeg) + 1
def owG (ip ie ia : Nat → Int32) (x : Int32) : Nat → Nat → Int32 → Int32
  | 0, _, z => z
  | f + 1, k, z => owG ip ie ia x f (k + 1) (if ip k = x then z - (ie k - ia k) else z)
def arG (ia ie : Nat → Int32) (x : Int32) : Nat → Nat → Int32 → Int32
  | 0, _, z => z
  | f + 1, k, z => arG ia ie x f (k + 1) (if (!decide (x < ia k) && !decide (ie k ≤ x)) = true then nI k else z)
def arV (i : IS) (x : Int32) : Int32 := arG (iA i) (iE i) x (iM i) 0 (-1)
def otG (i : IS) : Nat → Nat → Nat → Nat
  | 0, _, z => z
  | f + 1, j, z => otG i f (j + 1) (if arV i (nI j) = -1 then z + 1 else z)
def otV (i : IS) (n : Nat) : Nat := otG i n 0 0
def ctT (rd : Bool) (x y : Int32) : Int32 := if askT rd x 6 = 0 then askT rd y 3 else askT rd x 6
def dgKm (zs : Nat → Nat) (zr zo : Nat → Bool) (zi : Nat → Int32) : Nat → Nat → Int64 → Int64
  | 0, _, z => z
  | n + 1, k, z => dgKm zs zr zo zi n (k + 1) (mixd (mixd (mixd (mixd z (bI (cplM zs k))) (bI (zr k))) (bI (zo k))) (zi k))
def dg0m (b : Nat → Int32) (n : Nat) (ec : Int32) (lt : Bool) (zs : Nat → Nat) (zr zo : Nat → Bool) (zi : Nat → Int32) : Int64 := dgKm zs zr zo zi 6 0 (mixd (mixd (dgT b n 0 (3379 + (nI n).toInt64)) ec) (bI lt))
def dgM (b : Nat → Int32) (n : Nat) (ec : Int32) (lt : Bool) (zs : Nat → Nat) (zr zo : Nat → Bool) (zi : Nat → Int32) (i : IS) : Int64 := if iR i = true then dgW i (dg0m b n ec lt zs zr zo zi) else dg0m b n ec lt zs zr zo zi
set_option maxHeartbeats 4000000 in
set_option maxRecDepth 100000 in
theorem c_X6_markCount (l : Launch) (G : va_G) (tc : Nat → ClassId) (a : Nat → Nat) (th : Int32) (n : Nat) (b : Nat → Int32) (ec : Int32) (lt : Bool) (zs : Nat → Nat) (zw : Nat → Int32) (zr zo : Nat → Bool) (zi : Nat → Int32) (i : IS) (mm : Nat) (mp mz un : Nat → Nat) (hz : ∀ w, zs w ≤ 3) (hn : n ≤ 48) (r : Nat × (Nat → Nat) × (Nat → Nat)) (hr : fmMG b n ec zs zw n 0 (0, mp, mz) = r) : kI l yX6_markCount (xw yX6_markCount cX6_markCount 1 (some .int)) 2 G tc [.ref (a 0)] (wX tc a (th) (n) (b) (ec) (lt) (zs) (zw) (zr) (zo) (zi) (i) (mm) (mp) (mz) (un)) (nI r.1) (wX tc a (0) (n) (b) (ec) (lt) (zs) (zw) (zr) (zo) (zi) (i) (r.1) (r.2.1) (r.2.2) (un)) := by
  refine kI_of [some (.ref (a 0))] 0 (by decide) (Nat.le_of_ble_eq_true rfl) rfl ?_
  intro p e s m args below meth c A C
  refine xaload_0 C dX6_markCount_0 ?_
  refine xiconst C (0) dX6_markCount_1 (by decide) ?_
  refine xput C 0 (wX tc a (0) (n) (b) (ec) (lt) (zs) (zw) (zr) (zo) (zi) (i) (mm) (mp) (mz) (un)) fw_X6_64 dX6_markCount_2 rfl (Nat.le_of_ble_eq_true rfl) rfl rfl rfl ?_
  refine xaload_0 C dX6_markCount_5 ?_
  refine xcallVvA C m_X6_findMarks k_X6_147 (c_X6_findMarks l G tc a (0) (n) (b) (ec) (lt) (zs) (zw) (zr) (zo) (zi) (i) (mm) (mp) (mz) (un) hz hn r hr) dX6_markCount_6 0 rfl rfl rfl (by decide) rfl (Nat.le_of_ble_eq_true rfl) ⟨by decide, by decide⟩ ?_
  refine xaload_0 C dX6_markCount_9 ?_
  refine xget C 0 f_X6_116 dX6_markCount_10 rfl rfl ?_
  exact xiret C dX6_markCount_13 (by first | rfl | (simp [*]; done)) (rfl)
set_option maxHeartbeats 4000000 in
set_option maxRecDepth 100000 in
theorem c_X6_mark (l : Launch) (G : va_G) (tc : Nat → ClassId) (a : Nat → Nat) (th : Int32) (n : Nat) (b : Nat → Int32) (ec : Int32) (lt : Bool) (zs : Nat → Nat) (zw : Nat → Int32) (zr zo : Nat → Bool) (zi : Nat → Int32) (i : IS) (mm : Nat) (mp mz un : Nat → Nat) (hz : ∀ w, zs w ≤ 3) (hn : n ≤ 48) (r : Nat × (Nat → Nat) × (Nat → Nat)) (hr : fmMG b n ec zs zw n 0 (0, mp, mz) = r) (x : Int32) : kI l yX6_mark (xw yX6_mark cX6_mark 2 (some .int)) 2 G tc [.ref (a 0), .int x] (wX tc a (th) (n) (b) (ec) (lt) (zs) (zw) (zr) (zo) (zi) (i) (mm) (mp) (mz) (un)) (if isInB x 0 (nI r.1 - 1) = true then nI (r.2.1 x.toNatClampNeg) else 0) (wX tc a (if isInB x 0 (nI r.1 - 1) = true then 0 else 1) (n) (b) (ec) (lt) (zs) (zw) (zr) (zo) (zi) (i) (r.1) (r.2.1) (r.2.2) (un)) := by
  refine kI_of [some (.ref (a 0)), some (.int x)] 0 (by decide) (Nat.le_of_ble_eq_true rfl) rfl ?_
  intro p e s m args below meth c A C
  have hM : mOk r.1 r.2.1 r.2.2 := by rw [← hr]; exact fmMG_ok hz hn n 0 _ (Nat.le_refl _) ⟨Nat.zero_le _, fun q hq => absurd hq (Nat.not_lt_zero q)⟩
  refine xaload_0 C dX6_mark_0 ?_
  refine xiconst C (0) dX6_mark_1 (by decide) ?_
  refine xput C 0 (wX tc a (0) (n) (b) (ec) (lt) (zs) (zw) (zr) (zo) (zi) (i) (mm) (mp) (mz) (un)) fw_X6_64 dX6_mark_2 rfl (Nat.le_of_ble_eq_true rfl) rfl rfl rfl ?_
  refine xaload_0 C dX6_mark_5 ?_
  refine xcallVvA C m_X6_findMarks k_X6_147 (c_X6_findMarks l G tc a (0) (n) (b) (ec) (lt) (zs) (zw) (zr) (zo) (zi) (i) (mm) (mp) (mz) (un) hz hn r hr) dX6_mark_6 0 rfl rfl rfl (by decide) rfl (Nat.le_of_ble_eq_true rfl) ⟨by decide, by decide⟩ ?_
  refine xiload_1 C dX6_mark_9 ?_
  refine xiconst C (0) dX6_mark_10 (by decide) ?_
  refine xaload_0 C dX6_mark_11 ?_
  refine xget C 0 f_X6_116 dX6_mark_12 rfl rfl ?_
  refine xiconst C (1) dX6_mark_15 (by decide) ?_
  refine xisub C dX6_mark_16 ?_
  refine xcallSi0 C m_X6_isIn k_X6_67 (c_X6_isIn l G tc x 0 _) dX6_mark_17 ([] : List Nat) rfl rfl rfl (by decide) rfl (Nat.le_of_ble_eq_true rfl) ⟨by decide, by decide⟩ ?_
  refine xif_eq C (tgt := 32) dX6_mark_20 (by decide) (fun h20 => ?_) (fun h20 => ?_)
  · skip
    have h20 := bI0 h20
    have hif : ∀ {α : Type} (u v : α), (if isInB x 0 (nI r.1 - 1) = true then u else v) = v := fun u v => if_neg (by rw [h20]; exact Bool.false_ne_true)
    refine xaload_0 C dX6_mark_32 ?_
    refine xiconst C (1) dX6_mark_33 (by decide) ?_
    refine xcallViA C m_X6_no k_X6_77 (c_X6_no l G tc a (0) (n) (b) (ec) (lt) (zs) (zw) (zr) (zo) (zi) (i) (r.1) (r.2.1) (r.2.2) (un) 1) dX6_mark_34 0 rfl rfl rfl (by decide) rfl (Nat.le_of_ble_eq_true rfl) ⟨by decide, by decide⟩ ?_
    exact xiret C dX6_mark_37 (by rw [hif]) (by rw [hif])
  · skip
    have h20 := bI1 h20
    have hif : ∀ {α : Type} (u v : α), (if isInB x 0 (nI r.1 - 1) = true then u else v) = u := fun u v => if_pos h20
    refine xaload_0 C dX6_mark_23 ?_
    refine xget C 0 f_X6_55 dX6_mark_24 rfl rfl ?_
    refine xiload_1 C dX6_mark_27 ?_
    refine xiald C 13 dX6_mark_28 rfl (isIn_p h20 hM.1) ?_
    refine xgoto C (tgt := 37) dX6_mark_29 (by decide) ?_
    exact xiret C dX6_mark_37 (by rw [hif]) (by rw [hif])
set_option maxHeartbeats 4000000 in
set_option maxRecDepth 100000 in
theorem c_X6_best (l : Launch) (G : va_G) (tc : Nat → ClassId) (a : Nat → Nat) (th : Int32) (n : Nat) (b : Nat → Int32) (ec : Int32) (lt : Bool) (zs : Nat → Nat) (zw : Nat → Int32) (zr zo : Nat → Bool) (zi : Nat → Int32) (i : IS) (mm : Nat) (mp mz un : Nat → Nat) (hz : ∀ w, zs w ≤ 3) (hn : n ≤ 48) (r : Nat × (Nat → Nat) × (Nat → Nat)) (hr : fmMG b n ec zs zw n 0 (0, mp, mz) = r) (u : Nat → Nat) (hu : (cnF b n ec zs zw zr zo zi r.2.1 r.2.2 r.1 (r.1 + 1) un) = u) : kI l yX6_best (xw yX6_best cX6_best 1 (some .int)) 52 G tc [.ref (a 0)] (wX tc a (th) (n) (b) (ec) (lt) (zs) (zw) (zr) (zo) (zi) (i) (mm) (mp) (mz) (un)) (nI (iL (bsR b n ec zs zw zr zo zi r.2.1 r.2.2 r.1 u i))) (wX tc a (0) (n) (b) (ec) (lt) (zs) (zw) (zr) (zo) (zi) (bsR b n ec zs zw zr zo zi r.2.1 r.2.2 r.1 u i) (r.1) (r.2.1) (r.2.2) (u)) := by
  refine kI_of [some (.ref (a 0))] 0 (by decide) (Nat.le_of_ble_eq_true rfl) rfl ?_
  intro p e s m args below meth c A C
  have hM : mOk r.1 r.2.1 r.2.2 := by rw [← hr]; exact fmMG_ok hz hn n 0 _ (Nat.le_refl _) ⟨Nat.zero_le _, fun q hq => absurd hq (Nat.not_lt_zero q)⟩
  refine xaload_0 C dX6_best_0 ?_
  refine xiconst C (0) dX6_best_1 (by decide) ?_
  refine xput C 0 (wX tc a (0) (n) (b) (ec) (lt) (zs) (zw) (zr) (zo) (zi) (i) (mm) (mp) (mz) (un)) fw_X6_64 dX6_best_2 rfl (Nat.le_of_ble_eq_true rfl) rfl rfl rfl ?_
  refine xaload_0 C dX6_best_5 ?_
  refine xcallVvA C m_X6_findMarks k_X6_147 (c_X6_findMarks l G tc a (0) (n) (b) (ec) (lt) (zs) (zw) (zr) (zo) (zi) (i) (mm) (mp) (mz) (un) hz hn r hr) dX6_best_6 0 rfl rfl rfl (by decide) rfl (Nat.le_of_ble_eq_true rfl) ⟨by decide, by decide⟩ ?_
  refine xaload_0 C dX6_best_9 ?_
  refine xcallVvA C m_X6_count k_X6_150 (c_X6_count l G tc a (0) (n) (b) (ec) (lt) (zs) (zw) (zr) (zo) (zi) (i) (r.1) (r.2.1) (r.2.2) (un) hz hn hM) dX6_best_10 0 rfl rfl rfl (by decide) rfl (Nat.le_of_ble_eq_true rfl) ⟨by decide, by decide⟩ ?_
  rw [hu]
  refine xaload_0 C dX6_best_13 ?_
  refine xiconst C (0) dX6_best_14 (by decide) ?_
  refine xput C 0 (wX tc a (0) (n) (b) (ec) (lt) (zs) (zw) (zr) (zo) (zi) ((iK i, iA i, iE i, iT i, iP i, iD i, iO i, 0, iQ i, iL i, iR i)) (r.1) (r.2.1) (r.2.2) (u)) fw_X6_90 dX6_best_15 rfl (Nat.le_of_ble_eq_true rfl) rfl rfl rfl ?_
  refine xaload_0 C dX6_best_18 ?_
  refine xaload_0 C dX6_best_19 ?_
  refine xget C 0 f_X6_61 dX6_best_20 rfl rfl ?_
  refine xaload_0 C dX6_best_23 ?_
  refine xiconst C (nI 0) dX6_best_24 (by decide) ?_
  refine xaload_0 C dX6_best_25 ?_
  refine xget C 0 f_X6_116 dX6_best_26 rfl rfl ?_
  refine xbipush C (nI 6) dX6_best_29 (by decide) ?_
  refine xcallVi0 C m_X6_at k_X6_125 (c_X6_at l G tc a (0) (r.1) (6)) dX6_best_31 0 rfl ([] : List Nat) rfl rfl rfl (by decide) rfl (Nat.le_of_ble_eq_true rfl) ⟨by decide, by decide⟩ ?_
  refine xialdN C (atN 0 r.1 6) 15 dX6_best_34 rfl (atN_lt (by decide) hM.1 (by decide)) (rfl) (by decide) ?_
  refine xput C 0 (wX tc a (0) (n) (b) (ec) (lt) (zs) (zw) (zr) (zo) (zi) (bs0 i (u (atN 0 r.1 6))) (r.1) (r.2.1) (r.2.2) (u)) fw_X6_110 dX6_best_35 rfl (Nat.le_of_ble_eq_true rfl) rfl rfl rfl ?_
  refine xaload_0 C dX6_best_38 ?_
  refine xiconst C (nI 0) dX6_best_39 (by decide) ?_
  refine xaload_0 C dX6_best_40 ?_
  refine xget C 0 f_X6_116 dX6_best_41 rfl rfl ?_
  refine xbipush C (nI 6) dX6_best_44 (by decide) ?_
  refine xiconst C (-1) dX6_best_46 (by decide) ?_
  refine xcallVvA C m_X6_take k_X6_143 (c_X6_take l G tc a (0) (n) (b) (ec) (lt) (zs) (zw) (zr) (zo) (zi) (r.1) (r.2.1) (r.2.2) (u) hz hn hM 48 0 r.1 6 (-1) (bs0 i (u (atN 0 r.1 6))) (by decide) (Nat.le_refl _) (by decide) (by have := hM.1; omega) (by show 0 + (r.1 - 0) ≤ 48; have := hM.1; omega)) dX6_best_47 0 rfl rfl rfl (by decide) rfl (Nat.le_of_ble_eq_true rfl) ⟨by decide, by decide⟩ ?_
  refine xaload_0 C dX6_best_50 ?_
  refine xiconst C (1) dX6_best_51 (by decide) ?_
  refine xput C 0 (wX tc a (0) (n) (b) (ec) (lt) (zs) (zw) (zr) (zo) (zi) (setRd (tkG (pkF b n ec zs zw zr zo zi r.2.1 r.2.2 u) zr r.2.1 r.2.2 48 0 r.1 6 (-1) (bs0 i (u (atN 0 r.1 6)))) true) (r.1) (r.2.1) (r.2.2) (u)) fw_X6_84 dX6_best_52 rfl (Nat.le_of_ble_eq_true rfl) rfl rfl rfl ?_
  refine xaload_0 C dX6_best_55 ?_
  refine xget C 0 f_X6_110 dX6_best_56 rfl rfl ?_
  exact xiret C dX6_best_59 (by first | rfl | (simp [*]; done)) (rfl)
set_option maxHeartbeats 4000000 in
set_option maxRecDepth 100000 in
theorem c_X6_depth (l : Launch) (G : va_G) (tc : Nat → ClassId) (a : Nat → Nat) (th : Int32) (n : Nat) (b : Nat → Int32) (ec : Int32) (lt : Bool) (zs : Nat → Nat) (zw : Nat → Int32) (zr zo : Nat → Bool) (zi : Nat → Int32) (i : IS) (mm : Nat) (mp mz un : Nat → Nat) (hm : iM i ≤ 48) (hP : pOk (iP i) (iM i)) (x : Int32) : kI l yX6_depth (xw yX6_depth cX6_depth 4 (some .int)) 1 G tc [.ref (a 0), .int x] (wX tc a (th) (n) (b) (ec) (lt) (zs) (zw) (zr) (zo) (zi) (i) (mm) (mp) (mz) (un)) (if askT (iR i) x (nI (iM i)) = 0 then nI (dpG (iP i) (iM i) (iP i x.toNatClampNeg)) else 0) (wX tc a (askT (iR i) x (nI (iM i))) (n) (b) (ec) (lt) (zs) (zw) (zr) (zo) (zi) (i) (mm) (mp) (mz) (un)) := by
  refine kI_of [some (.ref (a 0)), some (.int x), none, none] 2 (by decide) (Nat.le_of_ble_eq_true rfl) rfl ?_
  intro p e s m args below meth c A C
  have loop : ∀ (f : Nat) (y : Int32) (z : Nat), f ≤ iM i → (y = -1 ∨ ∃ t, t < f ∧ y = nI t) → askT (iR i) x (nI (iM i)) = 0 → z + dpG (iP i) f y = dpG (iP i) (iM i) (iP i x.toNatClampNeg) → xAT p l e (xR 1 0 0) s m args below meth c (xQi below args s G A (if askT (iR i) x (nI (iM i)) = 0 then nI (dpG (iP i) (iM i) (iP i x.toNatClampNeg)) else 0) (wX tc a (askT (iR i) x (nI (iM i))) (n) (b) (ec) (lt) (zs) (zw) (zr) (zo) (zi) (i) (mm) (mp) (mz) (un))) G A 4 0 0 (wX tc a (askT (iR i) x (nI (iM i))) (n) (b) (ec) (lt) (zs) (zw) (zr) (zo) (zi) (i) (mm) (mp) (mz) (un)) [some (.ref (a 0)), some (.int x), some (.int (nI z)), some (.int y)] 23 [] := by
    intro f
    induction f with
    | zero =>
      intro y z hf hy hT hz
      have hy : y = -1 := by
        rcases hy with h | ⟨t, ht, -⟩
        · exact h
        · exact absurd ht (Nat.not_lt_zero t)
      subst hy
      have hz : z = dpG (iP i) (iM i) (iP i x.toNatClampNeg) := hz
      refine xiload_3 C dX6_depth_23 ?_
      refine xiconst C (-1) dX6_depth_24 (by decide) ?_
      refine xicmp_eq C (tgt := 41) dX6_depth_25 (by decide) (fun h25 => ?_) (fun h25 => ?_)
      · skip
        refine xiload_2 C dX6_depth_41 ?_
        exact xiret C dX6_depth_42 (by rw [if_pos hT, hz]) (rfl)
      · skip
        exact absurd rfl h25
    | succ f ih =>
      intro y z hf hy hT hz
      rw [dpG] at hz
      by_cases hy1 : y = -1
      · subst hy1
        rw [if_pos rfl] at hz
        have hz : z = dpG (iP i) (iM i) (iP i x.toNatClampNeg) := hz
        refine xiload_3 C dX6_depth_23 ?_
        refine xiconst C (-1) dX6_depth_24 (by decide) ?_
        refine xicmp_eq C (tgt := 41) dX6_depth_25 (by decide) (fun h25 => ?_) (fun h25 => ?_)
        · skip
          refine xiload_2 C dX6_depth_41 ?_
          exact xiret C dX6_depth_42 (by rw [if_pos hT, hz]) (rfl)
        · skip
          exact absurd rfl h25
      · obtain ⟨t, ht, hyt⟩ : ∃ t, t < f + 1 ∧ y = nI t := by
          rcases hy with h | h
          · exact absurd h hy1
          · exact h
        rw [if_neg hy1] at hz
        have hct : y.toNatClampNeg = t := by rw [hyt]; exact nI_clamp (by omega)
        rw [hct] at hz
        refine xiload_3 C dX6_depth_23 ?_
        refine xiconst C (-1) dX6_depth_24 (by decide) ?_
        refine xicmp_eq C (tgt := 41) dX6_depth_25 (by decide) (fun h25 => ?_) (fun h25 => ?_)
        · skip
          exact absurd h25 hy1
        · skip
          refine xiinc_2 C (nI (z + 1)) dX6_depth_28 (nI_1 z) rfl (by decide) ?_
          refine xaload_0 C dX6_depth_31 ?_
          refine xget C 0 f_X6_49 dX6_depth_32 rfl rfl ?_
          refine xiload_3 C dX6_depth_35 ?_
          refine xialdN C (t) 11 dX6_depth_36 rfl (by omega) (hyt) (by decide) ?_
          refine xistore_3 C dX6_depth_37 rfl (by decide) ?_
          refine xgoto C (tgt := 23) dX6_depth_38 (by decide) ?_
          exact ih (iP i t) (z + 1) (by omega) ((hP t (by omega)).imp (fun h => h) (fun ⟨t2, h1, h2⟩ => ⟨t2, by omega, h2⟩)) hT (by omega)
  refine xaload_0 C dX6_depth_0 ?_
  refine xiload_1 C dX6_depth_1 ?_
  refine xaload_0 C dX6_depth_2 ?_
  refine xget C 0 f_X6_90 dX6_depth_3 rfl rfl ?_
  refine xcallViA C m_X6_asks k_X6_153 (c_X6_asks l G tc a (th) (n) (b) (ec) (lt) (zs) (zw) (zr) (zo) (zi) (i) (mm) (mp) (mz) (un) x _) dX6_depth_6 0 rfl rfl rfl (by decide) rfl (Nat.le_of_ble_eq_true rfl) ⟨by decide, by decide⟩ ?_
  refine xif_ne C (tgt := 14) dX6_depth_9 (by decide) (fun h9 => ?_) (fun h9 => ?_)
  · skip
    have h9 := bI1 h9
    have h9 := of_decide_eq_true h9
    obtain ⟨j, hj, hxj⟩ := vp_in_of (mk_in (askT_0 h9).2.1 (askT_0 h9).2.2 hm) (by decide)
    have hxc : x.toNatClampNeg = j := by rw [hxj]; exact nI_clamp (by omega)
    have hjm : j < iM i := (nI_ltI (by omega) (by omega)).mp (by rw [← hxj]; exact (askT_0 h9).2.2)
    refine xiconst C (nI 0) dX6_depth_14 (by decide) ?_
    refine xistore_2 C dX6_depth_15 rfl (by decide) ?_
    refine xaload_0 C dX6_depth_16 ?_
    refine xget C 0 f_X6_49 dX6_depth_17 rfl rfl ?_
    refine xiload_1 C dX6_depth_20 ?_
    refine xiald C 11 dX6_depth_21 rfl (mk_in (askT_0 h9).2.1 (askT_0 h9).2.2 hm) ?_
    refine xistore_3 C dX6_depth_22 rfl (by decide) ?_
    exact loop (iM i) _ 0 (Nat.le_refl _) (by rw [hxc]; exact (hP j hjm).imp (fun h => h) (fun ⟨t2, h1, h2⟩ => ⟨t2, by omega, h2⟩)) h9 (Nat.zero_add _)
  · skip
    have h9 := bI0 h9
    have h9 := of_decide_eq_false h9
    refine xiconst C (0) dX6_depth_12 (by decide) ?_
    exact xiret C dX6_depth_13 (by rw [if_neg h9]) (rfl)
set_option maxHeartbeats 4000000 in
set_option maxRecDepth 100000 in
theorem c_X6_own (l : Launch) (G : va_G) (tc : Nat → ClassId) (a : Nat → Nat) (th : Int32) (n : Nat) (b : Nat → Int32) (ec : Int32) (lt : Bool) (zs : Nat → Nat) (zw : Nat → Int32) (zr zo : Nat → Bool) (zi : Nat → Int32) (i : IS) (mm : Nat) (mp mz un : Nat → Nat) (hm : iM i ≤ 48) (x : Int32) : kI l yX6_own (xw yX6_own cX6_own 4 (some .int)) 1 G tc [.ref (a 0), .int x] (wX tc a (th) (n) (b) (ec) (lt) (zs) (zw) (zr) (zo) (zi) (i) (mm) (mp) (mz) (un)) (if askT (iR i) x (nI (iM i)) = 0 then owG (iP i) (iE i) (iA i) x (iM i) 0 (iE i x.toNatClampNeg - iA i x.toNatClampNeg) else 0) (wX tc a (askT (iR i) x (nI (iM i))) (n) (b) (ec) (lt) (zs) (zw) (zr) (zo) (zi) (i) (mm) (mp) (mz) (un)) := by
  refine kI_of [some (.ref (a 0)), some (.int x), none, none] 2 (by decide) (Nat.le_of_ble_eq_true rfl) rfl ?_
  intro p e s m args below meth c A C
  have loop : ∀ (f k : Nat) (z : Int32), k + f = iM i → askT (iR i) x (nI (iM i)) = 0 → owG (iP i) (iE i) (iA i) x f k z = owG (iP i) (iE i) (iA i) x (iM i) 0 (iE i x.toNatClampNeg - iA i x.toNatClampNeg) → xAT p l e (xR 1 0 0) s m args below meth c (xQi below args s G A (if askT (iR i) x (nI (iM i)) = 0 then owG (iP i) (iE i) (iA i) x (iM i) 0 (iE i x.toNatClampNeg - iA i x.toNatClampNeg) else 0) (wX tc a (askT (iR i) x (nI (iM i))) (n) (b) (ec) (lt) (zs) (zw) (zr) (zo) (zi) (i) (mm) (mp) (mz) (un))) G A 4 0 0 (wX tc a (askT (iR i) x (nI (iM i))) (n) (b) (ec) (lt) (zs) (zw) (zr) (zo) (zi) (i) (mm) (mp) (mz) (un)) [some (.ref (a 0)), some (.int x), some (.int z), some (.int (nI k))] 30 [] := by
    intro f
    induction f with
    | zero =>
      intro k z hk hT hz
      have hk : k = iM i := hk
      subst hk
      have hz : z = owG (iP i) (iE i) (iA i) x (iM i) 0 (iE i x.toNatClampNeg - iA i x.toNatClampNeg) := hz
      refine xiload_3 C dX6_own_30 ?_
      refine xaload_0 C dX6_own_31 ?_
      refine xget C 0 f_X6_90 dX6_own_32 rfl rfl ?_
      refine xicmp_ge C (tgt := 74) dX6_own_35 (by decide) (fun h35 => ?_) (fun h35 => ?_)
      · skip
        refine xiload_2 C dX6_own_74 ?_
        exact xiret C dX6_own_75 (by rw [if_pos hT, hz]) (rfl)
      · skip
        exact absurd (Int32.le_refl _) h35
    | succ f ih =>
      intro k z hk hT hz
      rw [owG] at hz
      have hkm : k < iM i := by omega
      refine xiload_3 C dX6_own_30 ?_
      refine xaload_0 C dX6_own_31 ?_
      refine xget C 0 f_X6_90 dX6_own_32 rfl rfl ?_
      refine xicmp_ge C (tgt := 74) dX6_own_35 (by decide) (fun h35 => ?_) (fun h35 => ?_)
      · skip
        exact absurd h35 (nI_ge hkm (by omega))
      · skip
        refine xiload_2 C dX6_own_38 ?_
        refine xaload_0 C dX6_own_39 ?_
        refine xget C 0 f_X6_49 dX6_own_40 rfl rfl ?_
        refine xiload_3 C dX6_own_43 ?_
        refine xialdN C (k) 11 dX6_own_44 rfl (by omega) (rfl) (by decide) ?_
        refine xiload_1 C dX6_own_45 ?_
        refine xicmp_ne C (tgt := 65) dX6_own_46 (by decide) (fun h46 => ?_) (fun h46 => ?_)
        · skip
          refine xiconst C (0) dX6_own_65 (by decide) ?_
          refine xisub C dX6_own_66 ?_
          refine xtop (w := .int z) (congrArg Value.int (Int32.sub_zero z)) ?_
          refine xistore_2 C dX6_own_67 rfl (by decide) ?_
          refine xiinc_3 C (nI (k + 1)) dX6_own_68 (nI_1 k) rfl (by decide) ?_
          refine xgoto C (tgt := 30) dX6_own_71 (by decide) ?_
          exact ih (k + 1) _ (by omega) hT (by rw [← hz, if_neg h46])
        · skip
          refine xaload_0 C dX6_own_49 ?_
          refine xget C 0 f_X6_43 dX6_own_50 rfl rfl ?_
          refine xiload_3 C dX6_own_53 ?_
          refine xialdN C (k) 9 dX6_own_54 rfl (by omega) (rfl) (by decide) ?_
          refine xaload_0 C dX6_own_55 ?_
          refine xget C 0 f_X6_40 dX6_own_56 rfl rfl ?_
          refine xiload_3 C dX6_own_59 ?_
          refine xialdN C (k) 8 dX6_own_60 rfl (by omega) (rfl) (by decide) ?_
          refine xisub C dX6_own_61 ?_
          refine xgoto C (tgt := 66) dX6_own_62 (by decide) ?_
          refine xisub C dX6_own_66 ?_
          refine xistore_2 C dX6_own_67 rfl (by decide) ?_
          refine xiinc_3 C (nI (k + 1)) dX6_own_68 (nI_1 k) rfl (by decide) ?_
          refine xgoto C (tgt := 30) dX6_own_71 (by decide) ?_
          exact ih (k + 1) _ (by omega) hT (by rw [← hz, if_pos h46])
  refine xaload_0 C dX6_own_0 ?_
  refine xiload_1 C dX6_own_1 ?_
  refine xaload_0 C dX6_own_2 ?_
  refine xget C 0 f_X6_90 dX6_own_3 rfl rfl ?_
  refine xcallViA C m_X6_asks k_X6_153 (c_X6_asks l G tc a (th) (n) (b) (ec) (lt) (zs) (zw) (zr) (zo) (zi) (i) (mm) (mp) (mz) (un) x _) dX6_own_6 0 rfl rfl rfl (by decide) rfl (Nat.le_of_ble_eq_true rfl) ⟨by decide, by decide⟩ ?_
  refine xif_ne C (tgt := 14) dX6_own_9 (by decide) (fun h9 => ?_) (fun h9 => ?_)
  · skip
    have h9 := bI1 h9
    have h9 := of_decide_eq_true h9
    refine xaload_0 C dX6_own_14 ?_
    refine xget C 0 f_X6_43 dX6_own_15 rfl rfl ?_
    refine xiload_1 C dX6_own_18 ?_
    refine xiald C 9 dX6_own_19 rfl (mk_in (askT_0 h9).2.1 (askT_0 h9).2.2 hm) ?_
    refine xaload_0 C dX6_own_20 ?_
    refine xget C 0 f_X6_40 dX6_own_21 rfl rfl ?_
    refine xiload_1 C dX6_own_24 ?_
    refine xiald C 8 dX6_own_25 rfl (mk_in (askT_0 h9).2.1 (askT_0 h9).2.2 hm) ?_
    refine xisub C dX6_own_26 ?_
    refine xistore_2 C dX6_own_27 rfl (by decide) ?_
    refine xiconst C (nI 0) dX6_own_28 (by decide) ?_
    refine xistore_3 C dX6_own_29 rfl (by decide) ?_
    exact loop (iM i) 0 _ (by omega) h9 rfl
  · skip
    have h9 := bI0 h9
    have h9 := of_decide_eq_false h9
    refine xiconst C (0) dX6_own_12 (by decide) ?_
    exact xiret C dX6_own_13 (by rw [if_neg h9]) (rfl)
set_option maxHeartbeats 4000000 in
set_option maxRecDepth 100000 in
theorem c_X6_around (l : Launch) (G : va_G) (tc : Nat → ClassId) (a : Nat → Nat) (th : Int32) (n : Nat) (b : Nat → Int32) (ec : Int32) (lt : Bool) (zs : Nat → Nat) (zw : Nat → Int32) (zr zo : Nat → Bool) (zi : Nat → Int32) (i : IS) (mm : Nat) (mp mz un : Nat → Nat) (hm : iM i ≤ 48) (x : Int32) : kI l yX6_around (xw yX6_around cX6_around 4 (some .int)) 0 G tc [.ref (a 0), .int x] (wX tc a (th) (n) (b) (ec) (lt) (zs) (zw) (zr) (zo) (zi) (i) (mm) (mp) (mz) (un)) (arV i x) (wX tc a (th) (n) (b) (ec) (lt) (zs) (zw) (zr) (zo) (zi) (i) (mm) (mp) (mz) (un)) := by
  refine kI_of [some (.ref (a 0)), some (.int x), none, none] 2 (by decide) (Nat.le_of_ble_eq_true rfl) rfl ?_
  intro p e s m args below meth c A C
  have loop : ∀ (f k : Nat) (z : Int32), k + f = iM i → arG (iA i) (iE i) x f k z = arV i x → xAT p l e (xR 0 0 0) s m args below meth c (xQi below args s G A (arV i x) (wX tc a (th) (n) (b) (ec) (lt) (zs) (zw) (zr) (zo) (zi) (i) (mm) (mp) (mz) (un))) G A 4 0 0 (wX tc a (th) (n) (b) (ec) (lt) (zs) (zw) (zr) (zo) (zi) (i) (mm) (mp) (mz) (un)) [some (.ref (a 0)), some (.int x), some (.int z), some (.int (nI k))] 4 [] := by
    intro f
    induction f with
    | zero =>
      intro k z hk hz
      have hk : k = iM i := hk
      subst hk
      have hz : z = arV i x := hz
      refine xiload_3 C dX6_around_4 ?_
      refine xaload_0 C dX6_around_5 ?_
      refine xget C 0 f_X6_90 dX6_around_6 rfl rfl ?_
      refine xicmp_ge C (tgt := 40) dX6_around_9 (by decide) (fun h9 => ?_) (fun h9 => ?_)
      · skip
        refine xiload_2 C dX6_around_40 ?_
        exact xiret C dX6_around_41 (hz) (rfl)
      · skip
        exact absurd (Int32.le_refl _) h9
    | succ f ih =>
      intro k z hk hz
      rw [arG] at hz
      have hkm : k < iM i := by omega
      refine xiload_3 C dX6_around_4 ?_
      refine xaload_0 C dX6_around_5 ?_
      refine xget C 0 f_X6_90 dX6_around_6 rfl rfl ?_
      refine xicmp_ge C (tgt := 40) dX6_around_9 (by decide) (fun h9 => ?_) (fun h9 => ?_)
      · skip
        exact absurd h9 (nI_ge hkm (by omega))
      · skip
        refine xaload_0 C dX6_around_12 ?_
        refine xget C 0 f_X6_40 dX6_around_13 rfl rfl ?_
        refine xiload_3 C dX6_around_16 ?_
        refine xialdN C (k) 8 dX6_around_17 rfl (by omega) (rfl) (by decide) ?_
        refine xiload_1 C dX6_around_18 ?_
        refine xicmp_gt C (tgt := 34) dX6_around_19 (by decide) (fun h19 => ?_) (fun h19 => ?_)
        · skip
          refine xiinc_3 C (nI (k + 1)) dX6_around_34 (nI_1 k) rfl (by decide) ?_
          refine xgoto C (tgt := 4) dX6_around_37 (by decide) ?_
          exact ih (k + 1) _ (by omega) (by rw [← hz, if_neg (by simp [h19])])
        · skip
          refine xiload_1 C dX6_around_22 ?_
          refine xaload_0 C dX6_around_23 ?_
          refine xget C 0 f_X6_43 dX6_around_24 rfl rfl ?_
          refine xiload_3 C dX6_around_27 ?_
          refine xialdN C (k) 9 dX6_around_28 rfl (by omega) (rfl) (by decide) ?_
          refine xicmp_ge C (tgt := 34) dX6_around_29 (by decide) (fun h29 => ?_) (fun h29 => ?_)
          · skip
            refine xiinc_3 C (nI (k + 1)) dX6_around_34 (nI_1 k) rfl (by decide) ?_
            refine xgoto C (tgt := 4) dX6_around_37 (by decide) ?_
            exact ih (k + 1) _ (by omega) (by rw [← hz, if_neg (by simp [h29])])
          · skip
            refine xiload_3 C dX6_around_32 ?_
            refine xistore_2 C dX6_around_33 rfl (by decide) ?_
            refine xiinc_3 C (nI (k + 1)) dX6_around_34 (nI_1 k) rfl (by decide) ?_
            refine xgoto C (tgt := 4) dX6_around_37 (by decide) ?_
            exact ih (k + 1) _ (by omega) (by rw [← hz, if_pos (by simp [h19, h29])])
  refine xiconst C (-1) dX6_around_0 (by decide) ?_
  refine xistore_2 C dX6_around_1 rfl (by decide) ?_
  refine xiconst C (nI 0) dX6_around_2 (by decide) ?_
  refine xistore_3 C dX6_around_3 rfl (by decide) ?_
  exact loop (iM i) 0 (-1) (by omega) rfl
set_option maxHeartbeats 4000000 in
set_option maxRecDepth 100000 in
theorem c_X6_at_ (l : Launch) (G : va_G) (tc : Nat → ClassId) (a : Nat → Nat) (th : Int32) (n : Nat) (b : Nat → Int32) (ec : Int32) (lt : Bool) (zs : Nat → Nat) (zw : Nat → Int32) (zr zo : Nat → Bool) (zi : Nat → Int32) (i : IS) (mm : Nat) (mp mz un : Nat → Nat) (hm : iM i ≤ 48) (x : Int32) : kI l yX6_at_ (xw yX6_at_ cX6_at_ 2 (some .int)) 1 G tc [.ref (a 0), .int x] (wX tc a (th) (n) (b) (ec) (lt) (zs) (zw) (zr) (zo) (zi) (i) (mm) (mp) (mz) (un)) (if askT (iR i) x (nI n) = 0 then arV i x else 0) (wX tc a (askT (iR i) x (nI n)) (n) (b) (ec) (lt) (zs) (zw) (zr) (zo) (zi) (i) (mm) (mp) (mz) (un)) := by
  refine kI_of [some (.ref (a 0)), some (.int x)] 0 (by decide) (Nat.le_of_ble_eq_true rfl) rfl ?_
  intro p e s m args below meth c A C
  refine xaload_0 C dX6_at__0 ?_
  refine xiload_1 C dX6_at__1 ?_
  refine xaload_0 C dX6_at__2 ?_
  refine xget C 0 f_X6_81 dX6_at__3 rfl rfl ?_
  refine xcallViA C m_X6_asks k_X6_153 (c_X6_asks l G tc a (th) (n) (b) (ec) (lt) (zs) (zw) (zr) (zo) (zi) (i) (mm) (mp) (mz) (un) x _) dX6_at__6 0 rfl rfl rfl (by decide) rfl (Nat.le_of_ble_eq_true rfl) ⟨by decide, by decide⟩ ?_
  refine xif_eq C (tgt := 20) dX6_at__9 (by decide) (fun h9 => ?_) (fun h9 => ?_)
  · skip
    have h9 := bI0 h9
    have h9 := of_decide_eq_false h9
    refine xiconst C (0) dX6_at__20 (by decide) ?_
    exact xiret C dX6_at__21 (by rw [if_neg h9]) (rfl)
  · skip
    have h9 := bI1 h9
    have h9 := of_decide_eq_true h9
    refine xaload_0 C dX6_at__12 ?_
    refine xiload_1 C dX6_at__13 ?_
    refine xcallViA C m_X6_around k_X6_156 (c_X6_around l G tc a (askT (iR i) x (nI n)) (n) (b) (ec) (lt) (zs) (zw) (zr) (zo) (zi) (i) (mm) (mp) (mz) (un) hm x) dX6_at__14 0 rfl rfl rfl (by decide) rfl (Nat.le_of_ble_eq_true rfl) ⟨by decide, by decide⟩ ?_
    refine xgoto C (tgt := 21) dX6_at__17 (by decide) ?_
    exact xiret C dX6_at__21 (by rw [if_pos h9]) (rfl)
set_option maxHeartbeats 4000000 in
set_option maxRecDepth 100000 in
theorem c_X6_count_ (l : Launch) (G : va_G) (tc : Nat → ClassId) (a : Nat → Nat) (th : Int32) (n : Nat) (b : Nat → Int32) (ec : Int32) (lt : Bool) (zs : Nat → Nat) (zw : Nat → Int32) (zr zo : Nat → Bool) (zi : Nat → Int32) (i : IS) (mm : Nat) (mp mz un : Nat → Nat) (hm : iM i ≤ 48) (x y : Int32) : kI l yX6_count_ (xw yX6_count_ cX6_count_ 5 (some .int)) 1 G tc [.ref (a 0), .int x, .int y] (wX tc a (th) (n) (b) (ec) (lt) (zs) (zw) (zr) (zo) (zi) (i) (mm) (mp) (mz) (un)) (if ctT (iR i) x y = 0 then nI (cntG (iK i) (iT i) x y (iM i) 0 0) else 0) (wX tc a (ctT (iR i) x y) (n) (b) (ec) (lt) (zs) (zw) (zr) (zo) (zi) (i) (mm) (mp) (mz) (un)) := by
  refine kI_of [some (.ref (a 0)), some (.int x), some (.int y), none, none] 2 (by decide) (Nat.le_of_ble_eq_true rfl) rfl ?_
  intro p e s m args below meth c A C
  have loop : ∀ (f k z : Nat), k + f = iM i → askT (iR i) y 3 = ctT (iR i) x y → ctT (iR i) x y = 0 → cntG (iK i) (iT i) x y f k z = cntG (iK i) (iT i) x y (iM i) 0 0 → xAT p l e (xR 1 0 0) s m args below meth c (xQi below args s G A (if ctT (iR i) x y = 0 then nI (cntG (iK i) (iT i) x y (iM i) 0 0) else 0) (wX tc a (ctT (iR i) x y) (n) (b) (ec) (lt) (zs) (zw) (zr) (zo) (zi) (i) (mm) (mp) (mz) (un))) G A 5 0 0 (wX tc a (askT (iR i) y 3) (n) (b) (ec) (lt) (zs) (zw) (zr) (zo) (zi) (i) (mm) (mp) (mz) (un)) [some (.ref (a 0)), some (.int x), some (.int y), some (.int (nI z)), some (.int (nI k))] 26 [] := by
    intro f
    induction f with
    | zero =>
      intro k z hk hT hT0 hz
      have hk : k = iM i := hk
      subst hk
      have hz : z = cntG (iK i) (iT i) x y (iM i) 0 0 := hz
      refine xiload_4 C dX6_count__26 ?_
      refine xaload_0 C dX6_count__28 ?_
      refine xget C 0 f_X6_90 dX6_count__29 rfl rfl ?_
      refine xicmp_ge C (tgt := 71) dX6_count__32 (by decide) (fun h32 => ?_) (fun h32 => ?_)
      · skip
        refine xiload_3 C dX6_count__71 ?_
        exact xiret C dX6_count__72 (by rw [if_pos hT0, hz]) (by rw [hT])
      · skip
        exact absurd (Int32.le_refl _) h32
    | succ f ih =>
      intro k z hk hT hT0 hz
      rw [cntG] at hz
      have hkm : k < iM i := by omega
      refine xiload_4 C dX6_count__26 ?_
      refine xaload_0 C dX6_count__28 ?_
      refine xget C 0 f_X6_90 dX6_count__29 rfl rfl ?_
      refine xicmp_ge C (tgt := 71) dX6_count__32 (by decide) (fun h32 => ?_) (fun h32 => ?_)
      · skip
        exact absurd h32 (nI_ge hkm (by omega))
      · skip
        refine xiload_3 C dX6_count__35 ?_
        refine xaload_0 C dX6_count__36 ?_
        refine xget C 0 f_X6_37 dX6_count__37 rfl rfl ?_
        refine xiload_4 C dX6_count__40 ?_
        refine xialdN C (k) 7 dX6_count__42 rfl (by omega) (rfl) (by decide) ?_
        refine xiload_1 C dX6_count__43 ?_
        refine xicmp_ne C (tgt := 62) dX6_count__44 (by decide) (fun h44 => ?_) (fun h44 => ?_)
        · skip
          refine xiconst C (0) dX6_count__62 (by decide) ?_
          refine xiadd C dX6_count__63 ?_
          refine xtop (w := .int (nI z)) (congrArg Value.int (i32_a0 _)) ?_
          refine xistore_3 C dX6_count__64 rfl (by decide) ?_
          refine xiinc_4 C (nI (k + 1)) dX6_count__65 (nI_1 k) rfl (by decide) ?_
          refine xgoto C (tgt := 26) dX6_count__68 (by decide) ?_
          exact ih (k + 1) _ (by omega) hT hT0 (by rw [← hz, if_neg (by simp [h44])])
        · skip
          refine xaload_0 C dX6_count__47 ?_
          refine xget C 0 f_X6_46 dX6_count__48 rfl rfl ?_
          refine xiload_4 C dX6_count__51 ?_
          refine xialdN C (k) 10 dX6_count__53 rfl (by omega) (rfl) (by decide) ?_
          refine xiload_2 C dX6_count__54 ?_
          refine xicmp_ne C (tgt := 62) dX6_count__55 (by decide) (fun h55 => ?_) (fun h55 => ?_)
          · skip
            refine xiconst C (0) dX6_count__62 (by decide) ?_
            refine xiadd C dX6_count__63 ?_
            refine xtop (w := .int (nI z)) (congrArg Value.int (i32_a0 _)) ?_
            refine xistore_3 C dX6_count__64 rfl (by decide) ?_
            refine xiinc_4 C (nI (k + 1)) dX6_count__65 (nI_1 k) rfl (by decide) ?_
            refine xgoto C (tgt := 26) dX6_count__68 (by decide) ?_
            exact ih (k + 1) _ (by omega) hT hT0 (by rw [← hz, if_neg (by simp [h55])])
          · skip
            refine xiconst C (1) dX6_count__58 (by decide) ?_
            refine xgoto C (tgt := 63) dX6_count__59 (by decide) ?_
            refine xiadd C dX6_count__63 ?_
            refine xtop (w := .int (nI (z + 1))) (congrArg Value.int (nI_1 z)) ?_
            refine xistore_3 C dX6_count__64 rfl (by decide) ?_
            refine xiinc_4 C (nI (k + 1)) dX6_count__65 (nI_1 k) rfl (by decide) ?_
            refine xgoto C (tgt := 26) dX6_count__68 (by decide) ?_
            exact ih (k + 1) _ (by omega) hT hT0 (by rw [← hz, if_pos (by simp [h44, h55])])
  refine xiconst C (nI 0) dX6_count__0 (by decide) ?_
  refine xistore_3 C dX6_count__1 rfl (by decide) ?_
  refine xaload_0 C dX6_count__2 ?_
  refine xiload_1 C dX6_count__3 ?_
  refine xbipush C (6) dX6_count__4 (by decide) ?_
  refine xcallViA C m_X6_asks k_X6_153 (c_X6_asks l G tc a (th) (n) (b) (ec) (lt) (zs) (zw) (zr) (zo) (zi) (i) (mm) (mp) (mz) (un) x 6) dX6_count__6 0 rfl rfl rfl (by decide) rfl (Nat.le_of_ble_eq_true rfl) ⟨by decide, by decide⟩ ?_
  refine xif_eq C (tgt := 21) dX6_count__9 (by decide) (fun h9 => ?_) (fun h9 => ?_)
  · skip
    have h9 := bI0 h9
    have h9 := of_decide_eq_false h9
    have hT : ctT (iR i) x y = askT (iR i) x 6 := if_neg h9
    refine xiconst C (0) dX6_count__21 (by decide) ?_
    exact xiret C dX6_count__22 (by rw [hT, if_neg h9]) (by rw [hT])
  · skip
    have h9 := bI1 h9
    have h9 := of_decide_eq_true h9
    have hT : ctT (iR i) x y = askT (iR i) y 3 := if_pos h9
    refine xaload_0 C dX6_count__12 ?_
    refine xiload_2 C dX6_count__13 ?_
    refine xiconst C (3) dX6_count__14 (by decide) ?_
    refine xcallViA C m_X6_asks k_X6_153 (c_X6_asks l G tc a (askT (iR i) x 6) (n) (b) (ec) (lt) (zs) (zw) (zr) (zo) (zi) (i) (mm) (mp) (mz) (un) y 3) dX6_count__15 0 rfl rfl rfl (by decide) rfl (Nat.le_of_ble_eq_true rfl) ⟨by decide, by decide⟩ ?_
    refine xif_ne C (tgt := 23) dX6_count__18 (by decide) (fun h18 => ?_) (fun h18 => ?_)
    · skip
      have h18 := bI1 h18
      have h18 := of_decide_eq_true h18
      refine xiconst C (nI 0) dX6_count__23 (by decide) ?_
      refine xistore_4 C dX6_count__24 rfl (by decide) ?_
      exact loop (iM i) 0 0 (by omega) hT.symm (hT.trans h18) rfl
    · skip
      have h18 := bI0 h18
      have h18 := of_decide_eq_false h18
      refine xiconst C (0) dX6_count__21 (by decide) ?_
      exact xiret C dX6_count__22 (by rw [hT, if_neg h18]) (by rw [hT])
set_option maxHeartbeats 4000000 in
set_option maxRecDepth 100000 in
theorem c_X6_outside (l : Launch) (G : va_G) (tc : Nat → ClassId) (a : Nat → Nat) (th : Int32) (n : Nat) (b : Nat → Int32) (ec : Int32) (lt : Bool) (zs : Nat → Nat) (zw : Nat → Int32) (zr zo : Nat → Bool) (zi : Nat → Int32) (i : IS) (mm : Nat) (mp mz un : Nat → Nat) (hn : n ≤ 48) (hm : iM i ≤ 48) : kI l yX6_outside (xw yX6_outside cX6_outside 3 (some .int)) 1 G tc [.ref (a 0)] (wX tc a (th) (n) (b) (ec) (lt) (zs) (zw) (zr) (zo) (zi) (i) (mm) (mp) (mz) (un)) (nI (otV i n)) (wX tc a (th) (n) (b) (ec) (lt) (zs) (zw) (zr) (zo) (zi) (i) (mm) (mp) (mz) (un)) := by
  refine kI_of [some (.ref (a 0)), none, none] 2 (by decide) (Nat.le_of_ble_eq_true rfl) rfl ?_
  intro p e s m args below meth c A C
  have loop : ∀ (f k z : Nat), k + f = n → otG i f k z = otV i n → xAT p l e (xR 1 0 0) s m args below meth c (xQi below args s G A (nI (otV i n)) (wX tc a (th) (n) (b) (ec) (lt) (zs) (zw) (zr) (zo) (zi) (i) (mm) (mp) (mz) (un))) G A 3 0 0 (wX tc a (th) (n) (b) (ec) (lt) (zs) (zw) (zr) (zo) (zi) (i) (mm) (mp) (mz) (un)) [some (.ref (a 0)), some (.int (nI z)), some (.int (nI k))] 4 [] := by
    intro f
    induction f with
    | zero =>
      intro k z hk hz
      have hk : k = n := hk
      subst hk
      have hz : z = otV i k := hz
      refine xiload_2 C dX6_outside_4 ?_
      refine xaload_0 C dX6_outside_5 ?_
      refine xget C 0 f_X6_81 dX6_outside_6 rfl rfl ?_
      refine xicmp_ge C (tgt := 35) dX6_outside_9 (by decide) (fun h9 => ?_) (fun h9 => ?_)
      · skip
        refine xiload_1 C dX6_outside_35 ?_
        exact xiret C dX6_outside_36 (by rw [hz]) (rfl)
      · skip
        exact absurd (Int32.le_refl _) h9
    | succ f ih =>
      intro k z hk hz
      rw [otG] at hz
      have hkm : k < n := by omega
      refine xiload_2 C dX6_outside_4 ?_
      refine xaload_0 C dX6_outside_5 ?_
      refine xget C 0 f_X6_81 dX6_outside_6 rfl rfl ?_
      refine xicmp_ge C (tgt := 35) dX6_outside_9 (by decide) (fun h9 => ?_) (fun h9 => ?_)
      · skip
        exact absurd h9 (nI_ge hkm (by omega))
      · skip
        refine xiload_1 C dX6_outside_12 ?_
        refine xaload_0 C dX6_outside_13 ?_
        refine xiload_2 C dX6_outside_14 ?_
        refine xcallViA C m_X6_around k_X6_156 (c_X6_around l G tc a th n b ec lt zs zw zr zo zi i mm mp mz un hm (nI k)) dX6_outside_15 0 rfl rfl rfl (by decide) rfl (Nat.le_of_ble_eq_true rfl) ⟨by decide, by decide⟩ ?_
        refine xiconst C (-1) dX6_outside_18 (by decide) ?_
        refine xicmp_ne C (tgt := 26) dX6_outside_19 (by decide) (fun h19 => ?_) (fun h19 => ?_)
        · skip
          refine xiconst C (0) dX6_outside_26 (by decide) ?_
          refine xiadd C dX6_outside_27 ?_
          refine xtop (w := .int (nI z)) (congrArg Value.int (i32_a0 _)) ?_
          refine xistore_1 C dX6_outside_28 rfl (by decide) ?_
          refine xiinc_2 C (nI (k + 1)) dX6_outside_29 (nI_1 k) rfl (by decide) ?_
          refine xgoto C (tgt := 4) dX6_outside_32 (by decide) ?_
          exact ih (k + 1) _ (by omega) (by rw [← hz, if_neg h19])
        · skip
          refine xiconst C (1) dX6_outside_22 (by decide) ?_
          refine xgoto C (tgt := 27) dX6_outside_23 (by decide) ?_
          refine xiadd C dX6_outside_27 ?_
          refine xtop (w := .int (nI (z + 1))) (congrArg Value.int (nI_1 z)) ?_
          refine xistore_1 C dX6_outside_28 rfl (by decide) ?_
          refine xiinc_2 C (nI (k + 1)) dX6_outside_29 (nI_1 k) rfl (by decide) ?_
          refine xgoto C (tgt := 4) dX6_outside_32 (by decide) ?_
          exact ih (k + 1) _ (by omega) (by rw [← hz, if_pos h19])
  refine xiconst C (nI 0) dX6_outside_0 (by decide) ?_
  refine xistore_1 C dX6_outside_1 rfl (by decide) ?_
  refine xiconst C (nI 0) dX6_outside_2 (by decide) ?_
  refine xistore_2 C dX6_outside_3 rfl (by decide) ?_
  exact loop n 0 0 (by omega) rfl
set_option maxHeartbeats 4000000 in
set_option maxRecDepth 100000 in
theorem c_X6_water (l : Launch) (G : va_G) (tc : Nat → ClassId) (a : Nat → Nat) (th : Int32) (n : Nat) (b : Nat → Int32) (ec : Int32) (lt : Bool) (zs : Nat → Nat) (zw : Nat → Int32) (zr zo : Nat → Bool) (zi : Nat → Int32) (i : IS) (mm : Nat) (mp mz un : Nat → Nat) (hn : n ≤ 48) (hm : iM i ≤ 48) : kI l yX6_water (xw yX6_water cX6_water 1 (some .int)) 2 G tc [.ref (a 0)] (wX tc a (th) (n) (b) (ec) (lt) (zs) (zw) (zr) (zo) (zi) (i) (mm) (mp) (mz) (un)) (if askT (iR i) 0 1 = 0 then nI (otV i n) else 0) (wX tc a (askT (iR i) 0 1) (n) (b) (ec) (lt) (zs) (zw) (zr) (zo) (zi) (i) (mm) (mp) (mz) (un)) := by
  refine kI_of [some (.ref (a 0))] 0 (by decide) (Nat.le_of_ble_eq_true rfl) rfl ?_
  intro p e s m args below meth c A C
  refine xaload_0 C dX6_water_0 ?_
  refine xiconst C (0) dX6_water_1 (by decide) ?_
  refine xiconst C (1) dX6_water_2 (by decide) ?_
  refine xcallViA C m_X6_asks k_X6_153 (c_X6_asks l G tc a (th) (n) (b) (ec) (lt) (zs) (zw) (zr) (zo) (zi) (i) (mm) (mp) (mz) (un) 0 1) dX6_water_3 0 rfl rfl rfl (by decide) rfl (Nat.le_of_ble_eq_true rfl) ⟨by decide, by decide⟩ ?_
  refine xif_eq C (tgt := 16) dX6_water_6 (by decide) (fun h6 => ?_) (fun h6 => ?_)
  · skip
    have h6 := bI0 h6
    have h6 := of_decide_eq_false h6
    refine xiconst C (0) dX6_water_16 (by decide) ?_
    exact xiret C dX6_water_17 (by rw [if_neg h6]) (rfl)
  · skip
    have h6 := bI1 h6
    have h6 := of_decide_eq_true h6
    refine xaload_0 C dX6_water_9 ?_
    refine xcallViA C m_X6_outside k_X6_159 (c_X6_outside l G tc a (askT (iR i) 0 1) (n) (b) (ec) (lt) (zs) (zw) (zr) (zo) (zi) (i) (mm) (mp) (mz) (un) hn hm) dX6_water_10 0 rfl rfl rfl (by decide) rfl (Nat.le_of_ble_eq_true rfl) ⟨by decide, by decide⟩ ?_
    refine xgoto C (tgt := 17) dX6_water_13 (by decide) ?_
    exact xiret C dX6_water_17 (by rw [if_pos h6]) (rfl)
set_option maxHeartbeats 4000000 in
set_option maxRecDepth 100000 in
theorem c_X6_share (l : Launch) (G : va_G) (tc : Nat → ClassId) (a : Nat → Nat) (th : Int32) (n : Nat) (b : Nat → Int32) (ec : Int32) (lt : Bool) (zs : Nat → Nat) (zw : Nat → Int32) (zr zo : Nat → Bool) (zi : Nat → Int32) (i : IS) (mm : Nat) (mp mz un : Nat → Nat) (hn : n ≤ 48) (hm : iM i ≤ 48) (hnan : askT (iR i) 0 1 = 0 → ¬ n = 0 → vf_n64 (FP.ddiv (FP.i2d (nI n - nI (otV i n))) (FP.i2d (nI n)))) : kD l yX6_share (xw yX6_share cX6_share 1 (some .double)) 2 G tc [.ref (a 0)] (wX tc a (th) (n) (b) (ec) (lt) (zs) (zw) (zr) (zo) (zi) (i) (mm) (mp) (mz) (un)) (if askT (iR i) 0 1 = 0 then (if n = 0 then FP.dconst0 else FP.ddiv (FP.i2d (nI n - nI (otV i n))) (FP.i2d (nI n))) else FP.dconst0) (wX tc a (askT (iR i) 0 1) (n) (b) (ec) (lt) (zs) (zw) (zr) (zo) (zi) (i) (mm) (mp) (mz) (un)) := by
  refine kD_of [some (.ref (a 0))] 0 (by decide) (Nat.le_of_ble_eq_true rfl) rfl ?_
  intro p e s m args below meth c A C
  refine xaload_0 C dX6_share_0 ?_
  refine xiconst C (0) dX6_share_1 (by decide) ?_
  refine xiconst C (1) dX6_share_2 (by decide) ?_
  refine xcallViA C m_X6_asks k_X6_153 (c_X6_asks l G tc a (th) (n) (b) (ec) (lt) (zs) (zw) (zr) (zo) (zi) (i) (mm) (mp) (mz) (un) 0 1) dX6_share_3 0 rfl rfl rfl (by decide) rfl (Nat.le_of_ble_eq_true rfl) ⟨by decide, by decide⟩ ?_
  refine xif_eq C (tgt := 16) dX6_share_6 (by decide) (fun h6 => ?_) (fun h6 => ?_)
  · skip
    have h6 := bI0 h6
    have h6 := of_decide_eq_false h6
    refine xdconst0 C dX6_share_16 ?_
    refine xgoto C (tgt := 36) dX6_share_17 (by decide) ?_
    exact xdret C dX6_share_36 (by rw [if_neg h6]) (rfl)
  · skip
    have h6 := bI1 h6
    have h6 := of_decide_eq_true h6
    refine xaload_0 C dX6_share_9 ?_
    refine xget C 0 f_X6_81 dX6_share_10 rfl rfl ?_
    refine xif_ne C (tgt := 20) dX6_share_13 (by decide) (fun h13 => ?_) (fun h13 => ?_)
    · skip
      have h13 : ¬ n = 0 := nI_neq0 h13
      refine xaload_0 C dX6_share_20 ?_
      refine xget C 0 f_X6_81 dX6_share_21 rfl rfl ?_
      refine xaload_0 C dX6_share_24 ?_
      refine xcallViA C m_X6_outside k_X6_159 (c_X6_outside l G tc a (askT (iR i) 0 1) (n) (b) (ec) (lt) (zs) (zw) (zr) (zo) (zi) (i) (mm) (mp) (mz) (un) hn hm) dX6_share_25 0 rfl rfl rfl (by decide) rfl (Nat.le_of_ble_eq_true rfl) ⟨by decide, by decide⟩ ?_
      refine xisub C dX6_share_28 ?_
      refine xi2d C dX6_share_29 ?_
      refine xaload_0 C dX6_share_30 ?_
      refine xget C 0 f_X6_81 dX6_share_31 rfl rfl ?_
      refine xi2d C dX6_share_34 ?_
      refine xddiv C dX6_share_35 (hnan h6 h13) ?_
      exact xdret C dX6_share_36 (by rw [if_pos h6, if_neg h13]) (rfl)
    · skip
      have h13 : n = 0 := nI_eq0 h13 (by omega)
      refine xdconst0 C dX6_share_16 ?_
      refine xgoto C (tgt := 36) dX6_share_17 (by decide) ?_
      exact xdret C dX6_share_36 (by rw [if_pos h6, if_pos h13]) (rfl)
set_option maxHeartbeats 4000000 in
set_option maxRecDepth 100000 in
theorem c_X6_digest (l : Launch) (G : va_G) (tc : Nat → ClassId) (a : Nat → Nat) (th : Int32) (n : Nat) (b : Nat → Int32) (ec : Int32) (lt : Bool) (zs : Nat → Nat) (zw : Nat → Int32) (zr zo : Nat → Bool) (zi : Nat → Int32) (i : IS) (mm : Nat) (mp mz un : Nat → Nat) (hz3 : ∀ w, zs w ≤ 3) (hn : n ≤ 48) (hm : iM i ≤ 48) : kL l yX6_digest (xw yX6_digest cX6_digest 4 (some .long)) 1 G tc [.ref (a 0)] (wX tc a (th) (n) (b) (ec) (lt) (zs) (zw) (zr) (zo) (zi) (i) (mm) (mp) (mz) (un)) (dgM b n ec lt zs zr zo zi i) (wX tc a (0) (n) (b) (ec) (lt) (zs) (zw) (zr) (zo) (zi) (i) (mm) (mp) (mz) (un)) := by
  refine kL_of [some (.ref (a 0)), none, none, none] 3 (by decide) (Nat.le_of_ble_eq_true rfl) rfl ?_
  intro p e s m args below meth c A C
  have loopI : ∀ (f k : Nat) (z : Int64), k + f = iM i → mixd (dgI (iK i) (iA i) (iE i) (iT i) f k z) (nI (iL i)) = dgM b n ec lt zs zr zo zi i → xAT p l e (xR 1 0 0) s m args below meth c (xQl below args s G A (dgM b n ec lt zs zr zo zi i) (wX tc a (0) (n) (b) (ec) (lt) (zs) (zw) (zr) (zo) (zi) (i) (mm) (mp) (mz) (un))) G A 4 0 0 (wX tc a (0) (n) (b) (ec) (lt) (zs) (zw) (zr) (zo) (zi) (i) (mm) (mp) (mz) (un)) [some (.ref (a 0)), some (.long z), none, some (.int (nI k))] 181 [] := by
    intro f
    induction f with
    | zero =>
      intro k z hk hz
      have hk : k = iM i := hk
      subst hk
      have hz : mixd z (nI (iL i)) = dgM b n ec lt zs zr zo zi i := hz
      refine xiload_3 C dX6_digest_181 ?_
      refine xaload_0 C dX6_digest_182 ?_
      refine xget C 0 f_X6_90 dX6_digest_183 rfl rfl ?_
      refine xicmp_ge C (tgt := 245) dX6_digest_186 (by decide) (fun h186 => ?_) (fun h186 => ?_)
      · skip
        refine xlload_1 C dX6_digest_245 ?_
        refine xldc2 C dX6_digest_246 cl_X6_165 ?_
        refine xlmul C dX6_digest_249 ?_
        refine xaload_0 C dX6_digest_250 ?_
        refine xget C 0 f_X6_110 dX6_digest_251 rfl rfl ?_
        refine xi2l C dX6_digest_254 ?_
        refine xladd C dX6_digest_255 ?_
        exact xlret C dX6_digest_256 (hz) (rfl)
      · skip
        exact absurd (Int32.le_refl _) h186
    | succ f ih =>
      intro k z hk hz
      rw [dgI] at hz
      have hkm : k < iM i := by omega
      refine xiload_3 C dX6_digest_181 ?_
      refine xaload_0 C dX6_digest_182 ?_
      refine xget C 0 f_X6_90 dX6_digest_183 rfl rfl ?_
      refine xicmp_ge C (tgt := 245) dX6_digest_186 (by decide) (fun h186 => ?_) (fun h186 => ?_)
      · skip
        exact absurd h186 (nI_ge hkm (by omega))
      · skip
        refine xlload_1 C dX6_digest_189 ?_
        refine xldc2 C dX6_digest_190 cl_X6_165 ?_
        refine xlmul C dX6_digest_193 ?_
        refine xaload_0 C dX6_digest_194 ?_
        refine xget C 0 f_X6_37 dX6_digest_195 rfl rfl ?_
        refine xiload_3 C dX6_digest_198 ?_
        refine xialdN C (k) 7 dX6_digest_199 rfl (by omega) (rfl) (by decide) ?_
        refine xi2l C dX6_digest_200 ?_
        refine xladd C dX6_digest_201 ?_
        refine xldc2 C dX6_digest_202 cl_X6_165 ?_
        refine xlmul C dX6_digest_205 ?_
        refine xaload_0 C dX6_digest_206 ?_
        refine xget C 0 f_X6_40 dX6_digest_207 rfl rfl ?_
        refine xiload_3 C dX6_digest_210 ?_
        refine xialdN C (k) 8 dX6_digest_211 rfl (by omega) (rfl) (by decide) ?_
        refine xi2l C dX6_digest_212 ?_
        refine xladd C dX6_digest_213 ?_
        refine xldc2 C dX6_digest_214 cl_X6_165 ?_
        refine xlmul C dX6_digest_217 ?_
        refine xaload_0 C dX6_digest_218 ?_
        refine xget C 0 f_X6_43 dX6_digest_219 rfl rfl ?_
        refine xiload_3 C dX6_digest_222 ?_
        refine xialdN C (k) 9 dX6_digest_223 rfl (by omega) (rfl) (by decide) ?_
        refine xi2l C dX6_digest_224 ?_
        refine xladd C dX6_digest_225 ?_
        refine xldc2 C dX6_digest_226 cl_X6_165 ?_
        refine xlmul C dX6_digest_229 ?_
        refine xaload_0 C dX6_digest_230 ?_
        refine xget C 0 f_X6_46 dX6_digest_231 rfl rfl ?_
        refine xiload_3 C dX6_digest_234 ?_
        refine xialdN C (k) 10 dX6_digest_235 rfl (by omega) (rfl) (by decide) ?_
        refine xi2l C dX6_digest_236 ?_
        refine xladd C dX6_digest_237 ?_
        refine xlstore_1 C dX6_digest_238 rfl (by decide) ?_
        refine xiinc_3 C (nI (k + 1)) dX6_digest_239 (nI_1 k) rfl (by decide) ?_
        refine xgoto C (tgt := 181) dX6_digest_242 (by decide) ?_
        exact ih (k + 1) (mixd (mixd (mixd (mixd z (iK i k)) (iA i k)) (iE i k)) (iT i k)) (by omega) hz
  have loopK : ∀ (f k : Nat) (z : Int64), k + f = 6 → dgKm zs zr zo zi f k z = dg0m b n ec lt zs zr zo zi → xAT p l e (xR 1 0 0) s m args below meth c (xQl below args s G A (dgM b n ec lt zs zr zo zi i) (wX tc a (0) (n) (b) (ec) (lt) (zs) (zw) (zr) (zo) (zi) (i) (mm) (mp) (mz) (un))) G A 4 0 0 (wX tc a (0) (n) (b) (ec) (lt) (zs) (zw) (zr) (zo) (zi) (i) (mm) (mp) (mz) (un)) [some (.ref (a 0)), some (.long z), none, some (.int (nI k))] 76 [] := by
    intro f
    induction f with
    | zero =>
      intro k z hk hz
      have hk : k = 6 := hk
      subst hk
      have hz : z = dg0m b n ec lt zs zr zo zi := hz
      refine xiload_3 C dX6_digest_76 ?_
      refine xbipush C (6) dX6_digest_77 (by decide) ?_
      refine xicmp_ge C (tgt := 158) dX6_digest_79 (by decide) (fun h79 => ?_) (fun h79 => ?_)
      · skip
        refine xaload_0 C dX6_digest_158 ?_
        refine xget C 0 f_X6_84 dX6_digest_159 rfl rfl ?_
        refine xif_ne C (tgt := 167) dX6_digest_162 (by decide) (fun h162 => ?_) (fun h162 => ?_)
        · skip
          have h162 := bI1 h162
          refine xlload_1 C dX6_digest_167 ?_
          refine xldc2 C dX6_digest_168 cl_X6_165 ?_
          refine xlmul C dX6_digest_171 ?_
          refine xaload_0 C dX6_digest_172 ?_
          refine xget C 0 f_X6_90 dX6_digest_173 rfl rfl ?_
          refine xi2l C dX6_digest_176 ?_
          refine xladd C dX6_digest_177 ?_
          refine xlstore_1 C dX6_digest_178 rfl (by decide) ?_
          refine xiconst C (nI 0) dX6_digest_179 (by decide) ?_
          refine xistore_3 C dX6_digest_180 rfl (by decide) ?_
          exact loopI (iM i) 0 (mixd z (nI (iM i))) (by omega) (by rw [dgM, if_pos h162, ← hz]; rfl)
        · skip
          have h162 := bI0 h162
          refine xlload_1 C dX6_digest_165 ?_
          exact xlret C dX6_digest_166 (by rw [dgM, if_neg (by rw [h162]; exact Bool.false_ne_true), hz]) (rfl)
      · skip
        exact absurd (Int32.le_refl _) h79
    | succ f ih =>
      intro k z hk hz
      rw [dgKm] at hz
      have hk6 : k < 6 := by omega
      have k138 : xAT p l e (xR 1 0 0) s m args below meth c (xQl below args s G A (dgM b n ec lt zs zr zo zi i) (wX tc a (0) (n) (b) (ec) (lt) (zs) (zw) (zr) (zo) (zi) (i) (mm) (mp) (mz) (un))) G A 4 0 0 (wX tc a (0) (n) (b) (ec) (lt) (zs) (zw) (zr) (zo) (zi) (i) (mm) (mp) (mz) (un)) [some (.ref (a 0)), some (.long z), none, some (.int (nI k))] 138 [.long (bI (zo k)).toInt64, .long (mixd (mixd z (bI (cplM zs k))) (bI (zr k)) * 31)] := by
        refine xladd C dX6_digest_138 ?_
        refine xldc2 C dX6_digest_139 cl_X6_165 ?_
        refine xlmul C dX6_digest_142 ?_
        refine xaload_0 C dX6_digest_143 ?_
        refine xget C 0 f_X6_34 dX6_digest_144 rfl rfl ?_
        refine xiload_3 C dX6_digest_147 ?_
        refine xialdN C (k) 6 dX6_digest_148 rfl (by omega) (rfl) (by decide) ?_
        refine xi2l C dX6_digest_149 ?_
        refine xladd C dX6_digest_150 ?_
        refine xlstore_1 C dX6_digest_151 rfl (by decide) ?_
        refine xiinc_3 C (nI (k + 1)) dX6_digest_152 (nI_1 k) rfl (by decide) ?_
        refine xgoto C (tgt := 76) dX6_digest_155 (by decide) ?_
        exact ih (k + 1) (mixd (mixd (mixd (mixd z (bI (cplM zs k))) (bI (zr k))) (bI (zo k))) (zi k)) (by omega) hz
      have k119 : xAT p l e (xR 1 0 0) s m args below meth c (xQl below args s G A (dgM b n ec lt zs zr zo zi i) (wX tc a (0) (n) (b) (ec) (lt) (zs) (zw) (zr) (zo) (zi) (i) (mm) (mp) (mz) (un))) G A 4 0 0 (wX tc a (0) (n) (b) (ec) (lt) (zs) (zw) (zr) (zo) (zi) (i) (mm) (mp) (mz) (un)) [some (.ref (a 0)), some (.long z), none, some (.int (nI k))] 119 [.long (bI (zr k)).toInt64, .long (mixd z (bI (cplM zs k)) * 31)] := by
        refine xladd C dX6_digest_119 ?_
        refine xldc2 C dX6_digest_120 cl_X6_165 ?_
        refine xlmul C dX6_digest_123 ?_
        refine xaload_0 C dX6_digest_124 ?_
        refine xget C 0 f_X6_31 dX6_digest_125 rfl rfl ?_
        refine xiload_3 C dX6_digest_128 ?_
        refine xzaldN C (k) 5 dX6_digest_129 rfl (by omega) (rfl) (by decide) ?_
        refine xif_eq C (tgt := 137) dX6_digest_130 (by decide) (fun h130 => ?_) (fun h130 => ?_)
        · skip
          have h130 := bI0 h130
          refine xlconst C (0) dX6_digest_137 (by decide) ?_
          refine xtop (w := .long (bI (zo k)).toInt64) (by rw [h130]; rfl) ?_
          exact k138
        · skip
          have h130 := bI1 h130
          refine xlconst C (1) dX6_digest_133 (by decide) ?_
          refine xgoto C (tgt := 138) dX6_digest_134 (by decide) ?_
          refine xtop (w := .long (bI (zo k)).toInt64) (by rw [h130]; rfl) ?_
          exact k138
      have k100 : xAT p l e (xR 1 0 0) s m args below meth c (xQl below args s G A (dgM b n ec lt zs zr zo zi i) (wX tc a (0) (n) (b) (ec) (lt) (zs) (zw) (zr) (zo) (zi) (i) (mm) (mp) (mz) (un))) G A 4 0 0 (wX tc a (0) (n) (b) (ec) (lt) (zs) (zw) (zr) (zo) (zi) (i) (mm) (mp) (mz) (un)) [some (.ref (a 0)), some (.long z), none, some (.int (nI k))] 100 [.long (bI (cplM zs k)).toInt64, .long (z * 31)] := by
        refine xladd C dX6_digest_100 ?_
        refine xldc2 C dX6_digest_101 cl_X6_165 ?_
        refine xlmul C dX6_digest_104 ?_
        refine xaload_0 C dX6_digest_105 ?_
        refine xget C 0 f_X6_27 dX6_digest_106 rfl rfl ?_
        refine xiload_3 C dX6_digest_109 ?_
        refine xzaldN C (k) 4 dX6_digest_110 rfl (by omega) (rfl) (by decide) ?_
        refine xif_eq C (tgt := 118) dX6_digest_111 (by decide) (fun h111 => ?_) (fun h111 => ?_)
        · skip
          have h111 := bI0 h111
          refine xlconst C (0) dX6_digest_118 (by decide) ?_
          refine xtop (w := .long (bI (zr k)).toInt64) (by rw [h111]; rfl) ?_
          exact k119
        · skip
          have h111 := bI1 h111
          refine xlconst C (1) dX6_digest_114 (by decide) ?_
          refine xgoto C (tgt := 119) dX6_digest_115 (by decide) ?_
          refine xtop (w := .long (bI (zr k)).toInt64) (by rw [h111]; rfl) ?_
          exact k119
      refine xiload_3 C dX6_digest_76 ?_
      refine xbipush C (6) dX6_digest_77 (by decide) ?_
      refine xicmp_ge C (tgt := 158) dX6_digest_79 (by decide) (fun h79 => ?_) (fun h79 => ?_)
      · skip
        exact absurd h79 (nI_ge hk6 (by decide))
      · skip
        refine xlload_1 C dX6_digest_82 ?_
        refine xldc2 C dX6_digest_83 cl_X6_165 ?_
        refine xlmul C dX6_digest_86 ?_
        refine xaload_0 C dX6_digest_87 ?_
        refine xiload_3 C dX6_digest_88 ?_
        refine xcallViA C m_X6_isComplete k_X6_87 (c_X6_isComplete l G tc a (0) (n) (b) (ec) (lt) (zs) (zw) (zr) (zo) (zi) (i) (mm) (mp) (mz) (un) hz3 k hk6) dX6_digest_89 0 rfl rfl rfl (by decide) rfl (Nat.le_of_ble_eq_true rfl) ⟨by decide, by decide⟩ ?_
        refine xif_eq C (tgt := 99) dX6_digest_92 (by decide) (fun h92 => ?_) (fun h92 => ?_)
        · skip
          have h92 := bI0 h92
          refine xlconst C (0) dX6_digest_99 (by decide) ?_
          refine xtop (w := .long (bI (cplM zs k)).toInt64) (by rw [h92]; rfl) ?_
          exact k100
        · skip
          have h92 := bI1 h92
          refine xlconst C (1) dX6_digest_95 (by decide) ?_
          refine xgoto C (tgt := 100) dX6_digest_96 (by decide) ?_
          refine xtop (w := .long (bI (cplM zs k)).toInt64) (by rw [h92]; rfl) ?_
          exact k100
  have loopT : ∀ (f k : Nat) (z : Int64), k + f = n → dgT b f k z = dgT b n 0 (3379 + (nI n).toInt64) → xAT p l e (xR 1 0 0) s m args below meth c (xQl below args s G A (dgM b n ec lt zs zr zo zi i) (wX tc a (0) (n) (b) (ec) (lt) (zs) (zw) (zr) (zo) (zi) (i) (mm) (mp) (mz) (un))) G A 4 0 0 (wX tc a (0) (n) (b) (ec) (lt) (zs) (zw) (zr) (zo) (zi) (i) (mm) (mp) (mz) (un)) [some (.ref (a 0)), some (.long z), none, some (.int (nI k))] 17 [] := by
    intro f
    induction f with
    | zero =>
      intro k z hk hz
      have hk : k = n := hk
      have hz : z = dgT b n 0 (3379 + (nI n).toInt64) := hz
      have k72 : xAT p l e (xR 1 0 0) s m args below meth c (xQl below args s G A (dgM b n ec lt zs zr zo zi i) (wX tc a (0) (n) (b) (ec) (lt) (zs) (zw) (zr) (zo) (zi) (i) (mm) (mp) (mz) (un))) G A 4 0 0 (wX tc a (0) (n) (b) (ec) (lt) (zs) (zw) (zr) (zo) (zi) (i) (mm) (mp) (mz) (un)) [some (.ref (a 0)), some (.long z), none, some (.int (nI k))] 72 [.long (bI lt).toInt64, .long (mixd z ec * 31)] := by
        refine xladd C dX6_digest_72 ?_
        refine xlstore_1 C dX6_digest_73 rfl (by decide) ?_
        refine xiconst C (nI 0) dX6_digest_74 (by decide) ?_
        refine xistore_3 C dX6_digest_75 rfl (by decide) ?_
        exact loopK 6 0 (mixd (mixd z ec) (bI lt)) rfl (by rw [hz]; rfl)
      refine xiload_3 C dX6_digest_17 ?_
      refine xaload_0 C dX6_digest_18 ?_
      refine xget C 0 f_X6_81 dX6_digest_19 rfl rfl ?_
      refine xicmp_ge C (tgt := 45) dX6_digest_22 (by decide) (fun h22 => ?_) (fun h22 => ?_)
      · skip
        refine xlload_1 C dX6_digest_45 ?_
        refine xldc2 C dX6_digest_46 cl_X6_165 ?_
        refine xlmul C dX6_digest_49 ?_
        refine xaload_0 C dX6_digest_50 ?_
        refine xget C 0 f_X6_13 dX6_digest_51 rfl rfl ?_
        refine xi2l C dX6_digest_54 ?_
        refine xladd C dX6_digest_55 ?_
        refine xldc2 C dX6_digest_56 cl_X6_165 ?_
        refine xlmul C dX6_digest_59 ?_
        refine xaload_0 C dX6_digest_60 ?_
        refine xget C 0 f_X6_17 dX6_digest_61 rfl rfl ?_
        refine xif_eq C (tgt := 71) dX6_digest_64 (by decide) (fun h64 => ?_) (fun h64 => ?_)
        · skip
          have h64 := bI0 h64
          refine xlconst C (0) dX6_digest_71 (by decide) ?_
          refine xtop (w := .long (bI (lt)).toInt64) (by rw [h64]; rfl) ?_
          exact k72
        · skip
          have h64 := bI1 h64
          refine xlconst C (1) dX6_digest_67 (by decide) ?_
          refine xgoto C (tgt := 72) dX6_digest_68 (by decide) ?_
          refine xtop (w := .long (bI (lt)).toInt64) (by rw [h64]; rfl) ?_
          exact k72
      · skip
        exact absurd (show nI n ≤ nI k from by rw [hk]; exact Int32.le_refl _) h22
    | succ f ih =>
      intro k z hk hz
      rw [dgT] at hz
      have hkn : k < n := by omega
      refine xiload_3 C dX6_digest_17 ?_
      refine xaload_0 C dX6_digest_18 ?_
      refine xget C 0 f_X6_81 dX6_digest_19 rfl rfl ?_
      refine xicmp_ge C (tgt := 45) dX6_digest_22 (by decide) (fun h22 => ?_) (fun h22 => ?_)
      · skip
        exact absurd h22 (nI_ge hkn (by omega))
      · skip
        refine xlload_1 C dX6_digest_25 ?_
        refine xldc2 C dX6_digest_26 cl_X6_165 ?_
        refine xlmul C dX6_digest_29 ?_
        refine xaload_0 C dX6_digest_30 ?_
        refine xget C 0 f_X6_9 dX6_digest_31 rfl rfl ?_
        refine xiload_3 C dX6_digest_34 ?_
        refine xialdN C (k) 1 dX6_digest_35 rfl (by omega) (rfl) (by decide) ?_
        refine xi2l C dX6_digest_36 ?_
        refine xladd C dX6_digest_37 ?_
        refine xlstore_1 C dX6_digest_38 rfl (by decide) ?_
        refine xiinc_3 C (nI (k + 1)) dX6_digest_39 (nI_1 k) rfl (by decide) ?_
        refine xgoto C (tgt := 17) dX6_digest_42 (by decide) ?_
        exact ih (k + 1) (mixd z (b k)) (by omega) hz
  refine xaload_0 C dX6_digest_0 ?_
  refine xiconst C (0) dX6_digest_1 (by decide) ?_
  refine xput C 0 (wX tc a (0) (n) (b) (ec) (lt) (zs) (zw) (zr) (zo) (zi) (i) (mm) (mp) (mz) (un)) fw_X6_64 dX6_digest_2 rfl (Nat.le_of_ble_eq_true rfl) rfl rfl rfl ?_
  refine xldc2 C dX6_digest_5 cl_X6_163 ?_
  refine xaload_0 C dX6_digest_8 ?_
  refine xget C 0 f_X6_81 dX6_digest_9 rfl rfl ?_
  refine xi2l C dX6_digest_12 ?_
  refine xladd C dX6_digest_13 ?_
  refine xlstore_1 C dX6_digest_14 rfl (by decide) ?_
  refine xiconst C (nI 0) dX6_digest_15 (by decide) ?_
  refine xistore_3 C dX6_digest_16 rfl (by decide) ?_
  exact loopT n 0 _ (by omega) rfl
