/-! the quick reading, as the class makes it -/
def iOk (i : IS) : Prop := iM i ≤ 48 ∧ iQ i ≤ 48 ∧ opOk (iO i) (iQ i) (iM i)
theorem iOk_fn {x y : Int32} {i : IS} (h : iOk i) : iOk (fnI x y i) := ⟨h.1, Nat.le_trans (Nat.sub_le _ _) h.2.1, fun r hr => h.2.2 r (Nat.lt_of_lt_of_le hr (Nat.sub_le _ _))⟩
theorem iOk_bg {x y : Int32} {i : IS} (h : iOk i) (hm : iM i < 48) (hq : iQ i < 48) : iOk (bgI x y i) := by
  refine ⟨hm, hq, fun r hr => ?_⟩
  have hr : r < iQ i + 1 := hr
  show ∃ t, t < iM i + 1 ∧ upd (iO i) (iQ i) (nI (iM i)) r = nI t
  by_cases e : r = iQ i
  · subst e; exact ⟨iM i, Nat.lt_succ_self _, pk_us⟩
  · obtain ⟨t, t1, t2⟩ := h.2.2 r (by omega)
    exact ⟨t, by omega, by rw [pk_un e]; exact t2⟩
theorem c_fin (l : Launch) (G : va_G) (tc : Nat → ClassId) (a : Nat → Nat) (i : IS) (h : iOk i) (hq : 0 < iQ i) (x y : Int32) : kV l yX1_finish (xw yX1_finish cX1_finish 4 none) 1 G tc [.ref (a 0), .int x, .int y] (wIs tc a i) (wIs tc a (fnI x y i)) := by
  obtain ⟨ik, ia, ie, it, ip, id, io, im, iq, il, ir⟩ := i
  obtain ⟨h1, h2, h3⟩ := h
  simp only [iM, iQ, iO] at h1 h2 h3 hq
  obtain ⟨q, rfl⟩ : ∃ z, iq = z + 1 := ⟨iq - 1, by omega⟩
  obtain ⟨j, j1, j2⟩ := h3 q (by omega)
  have e : (io q).toNatClampNeg = j := by rw [j2]; exact nI_clamp (by omega)
  have := c_X1_finish l G tc a ik ia ie it ip id io im q il ir h2 j (by omega) j2 x y
  show kV _ _ _ _ _ _ _ (wI tc a ik ia ie it ip id io im (q + 1) il ir) (wI tc a ik ia (upd ie (io q).toNatClampNeg x) (upd it (io q).toNatClampNeg y) ip id io im q il ir)
  rw [e]
  exact this
theorem c_beg (l : Launch) (G : va_G) (tc : Nat → ClassId) (a : Nat → Nat) (i : IS) (hm : iM i < 48) (hq : iQ i < 48) (x y : Int32) : kV l yX1_begin (xw yX1_begin cX1_begin 3 none) 1 G tc [.ref (a 0), .int x, .int y] (wIs tc a i) (wIs tc a (bgI x y i)) := c_X1_begin l G tc a (iK i) (iA i) (iE i) (iT i) (iP i) (iD i) (iO i) (iM i) (iQ i) (iL i) (iR i) hm hq x y
theorem c_okd (l : Launch) (G : va_G) (tc : Nat → ClassId) (a : Nat → Nat) (i : IS) (h : iOk i) (j : Nat) (hj : j < 1000) : kI l yX1_openKind (xw yX1_openKind cX1_openKind 3 (some .int)) 1 G tc [.ref (a 0), .int (nI j)] (wIs tc a i) (okd (iK i) (iO i) (iQ i) j) (wIs tc a i) := c_X1_openKind l G tc a (iK i) (iA i) (iE i) (iT i) (iP i) (iD i) (iO i) (iM i) (iQ i) (iL i) (iR i) h.2.1 h.1 h.2.2 j hj
theorem c_inn (l : Launch) (G : va_G) (tc : Nat → ClassId) (a : Nat → Nat) (i : IS) (h : iOk i) : kI l yX1_innermostKind (xw yX1_innermostKind cX1_innermostKind 1 (some .int)) 2 G tc [.ref (a 0)] (wIs tc a i) (okd (iK i) (iO i) (iQ i) 0) (wIs tc a i) := c_X1_innermostKind l G tc a (iK i) (iA i) (iE i) (iT i) (iP i) (iD i) (iO i) (iM i) (iQ i) (iL i) (iR i) h.2.1 h.1 h.2.2
def guG (x y : Int32) : Nat → IS → IS
  | 0, i => i
  | n + 1, i => guG x y n (fnI x y i)
theorem iOk_gu {x y : Int32} : ∀ {n : Nat} {i : IS}, iOk i → iOk (guG x y n i)
  | 0, _, h => h
  | n + 1, i, h => iOk_gu (n := n) (i := fnI x y i) (iOk_fn h)
theorem iQ_gu {x y : Int32} : ∀ {n : Nat} {i : IS}, iQ (guG x y n i) = iQ i - n
  | 0, _ => rfl
  | n + 1, i => by
    rw [guG, iQ_gu]
    show iQ i - 1 - n = iQ i - (n + 1)
    omega
def iicG (ko kc ik io : Nat → Int32) (iq : Nat) (w : Int32) : Nat → Nat → Option Nat
  | 0, _ => none
  | n + 1, j => if clb ko kc (okd ik io iq j) w = true then some j else iicG ko kc ik io iq w n (j + 1)
def iic (ko kc ik io : Nat → Int32) (iq : Nat) (w : Int32) : Option Nat := iicG ko kc ik io iq w (iq - 1) 1
theorem iicG_lt {ko kc ik io : Nat → Int32} {iq : Nat} {w : Int32} : ∀ {n j z : Nat}, iicG ko kc ik io iq w n j = some z → j ≤ z ∧ z < j + n
  | 0, _, _, e => by simp [iicG] at e
  | n + 1, j, z, e => by
    rw [iicG] at e
    split at e
    · cases e; omega
    · have := iicG_lt e; omega
def skG (od : Int32) : Nat → Nat → Option Nat
  | 0, _ => none
  | n + 1, k => if hk od (nI k) = true then some k else skG od n (k + 1)
def lfI (i : IS) : IS := (iK i, iA i, iE i, iT i, iP i, iD i, iO i, iM i, iQ i, iL i + 1, iR i)
def toc (lt : Bool) (ko kc : Nat → Int32) (w x y : Int32) (i : IS) : Bool × IS := match iic ko kc (iK i) (iO i) (iQ i) w with
  | none => (false, i)
  | some g => (true, if lt = true then fnI y 0 (guG x 1 g i) else lfI i)
def tkw (lt : Bool) (ko kc ki : Nat → Int32) (kr ku w x y : Int32) (i : IS) : Bool × IS :=
  if clb ko kc (okd (iK i) (iO i) (iQ i) 0) w = true then (true, fnI y 0 i)
  else if (!decide ((kw ko kc ko w &&& alw ki kr ku (okd (iK i) (iO i) (iQ i) 0)) = 0) && decide (iQ i < 8)) = true then (true, bgI (oI (skG (kw ko kc ko w &&& alw ki kr ku (okd (iK i) (iO i) (iQ i) 0)) 6 0)) x i)
  else if (decide (okd (iK i) (iO i) (iQ i) 0 = 6) || hk kr (okd (iK i) (iO i) (iQ i) 0)) = true then (false, i) else toc lt ko kc w x y i
def rwG (lt : Bool) (b : Nat → Int32) (n : Nat) (ec : Int32) (ko kc ki : Nat → Int32) (kr ku : Int32) (j : Nat) (i : IS) : Nat → Nat × IS
  | 0 => (1, i)
  | q + 1 => if (!decide (wAt b n ec j (q + 1) = 0) && (tkw lt ko kc ki kr ku (wAt b n ec j (q + 1)) (nI j) (nI (j + (q + 1))) i).1) = true then (q + 1, (tkw lt ko kc ki kr ku (wAt b n ec j (q + 1)) (nI j) (nI (j + (q + 1))) i).2) else rwG lt b n ec ko kc ki kr ku j i q
def rw3 (lt : Bool) (b : Nat → Int32) (n : Nat) (ec : Int32) (ko kc ki : Nat → Int32) (kr ku : Int32) (j : Nat) (i : IS) : Nat × IS := rwG lt b n ec ko kc ki kr ku j i 3
def qkG (lt : Bool) (b : Nat → Int32) (n : Nat) (ec : Int32) (ko kc ki : Nat → Int32) (kr ku : Int32) : Nat → Nat → Nat → IS → IS
  | 0, _, _, i => i
  | f + 1, j, nx, i => if j = nx then (if b j = ec then qkG lt b n ec ko kc ki kr ku f (j + 1) (j + 2) i else qkG lt b n ec ko kc ki kr ku f (j + 1) (j + (rw3 lt b n ec ko kc ki kr ku j i).1) (rw3 lt b n ec ko kc ki kr ku j i).2) else qkG lt b n ec ko kc ki kr ku f (j + 1) nx i
/-- while it reads: not more islands than places, at most 8 open -/
def qOk (j : Nat) (i : IS) : Prop := iM i ≤ j ∧ iQ i ≤ 8 ∧ opOk (iO i) (iQ i) (iM i)
theorem qOk_i {j : Nat} {i : IS} (h : qOk j i) (hj : j ≤ 48) : iOk i := ⟨Nat.le_trans h.1 hj, Nat.le_trans h.2.1 (by decide), h.2.2⟩
theorem qOk_fn {j : Nat} {x y : Int32} {i : IS} (h : qOk j i) : qOk j (fnI x y i) := ⟨h.1, Nat.le_trans (Nat.sub_le _ _) h.2.1, fun r hr => h.2.2 r (Nat.lt_of_lt_of_le hr (Nat.sub_le _ _))⟩
theorem qOk_gu {j : Nat} {x y : Int32} : ∀ {n : Nat} {i : IS}, qOk j i → qOk j (guG x y n i)
  | 0, _, h => h
  | n + 1, i, h => qOk_gu (n := n) (i := fnI x y i) (qOk_fn h)
theorem qOk_up {j k : Nat} {i : IS} (h : qOk j i) (hk : j ≤ k) : qOk k i := ⟨Nat.le_trans h.1 hk, h.2⟩
theorem qOk_tkw {lt : Bool} {ko kc ki : Nat → Int32} {kr ku w x y : Int32} {j : Nat} {i : IS} (h : qOk j i) (hj : j < 48) : qOk (j + 1) (tkw lt ko kc ki kr ku w x y i).2 := by
  rw [tkw]
  split
  · exact qOk_up (qOk_fn h) (Nat.le_succ _)
  · split
    · next h2 =>
      simp only [Bool.and_eq_true, decide_eq_true_eq] at h2
      exact ⟨Nat.succ_le_succ h.1, h2.2, (iOk_bg (qOk_i h (by omega)) (by have := h.1; omega) (by omega)).2.2⟩
    · split
      · exact qOk_up h (Nat.le_succ _)
      · rw [toc]
        split
        · exact qOk_up h (Nat.le_succ _)
        · dsimp only
          split
          · exact qOk_up (qOk_fn (qOk_gu h)) (Nat.le_succ _)
          · exact qOk_up (show qOk j (lfI i) from h) (Nat.le_succ _)
theorem qOk_rwG {lt : Bool} {b : Nat → Int32} {n : Nat} {ec : Int32} {ko kc ki : Nat → Int32} {kr ku : Int32} {j : Nat} {i : IS} (h : qOk j i) (hj : j < 48) : ∀ q, qOk (j + 1) (rwG lt b n ec ko kc ki kr ku j i q).2 ∧ 1 ≤ (rwG lt b n ec ko kc ki kr ku j i q).1 ∧ (rwG lt b n ec ko kc ki kr ku j i q).1 ≤ q + 1
  | 0 => ⟨qOk_up h (Nat.le_succ _), Nat.le_refl _, Nat.le_refl _⟩
  | q + 1 => by
    rw [rwG]
    split
    · exact ⟨qOk_tkw h hj, Nat.succ_le_succ (Nat.zero_le _), Nat.le_succ _⟩
    · have := qOk_rwG (lt := lt) (b := b) (n := n) (ec := ec) (ko := ko) (kc := kc) (ki := ki) (kr := kr) (ku := ku) h hj q
      exact ⟨this.1, this.2.1, by omega⟩
theorem tkw_f {lt : Bool} {ko kc ki : Nat → Int32} {kr ku w x y : Int32} {i : IS} (h : (tkw lt ko kc ki kr ku w x y i).1 = false) : (tkw lt ko kc ki kr ku w x y i).2 = i := by
  rw [tkw] at h ⊢
  split
  · next c => rw [if_pos c] at h; cases h
  · next c =>
    rw [if_neg c] at h
    split
    · next c2 => rw [if_pos c2] at h; cases h
    · next c2 =>
      rw [if_neg c2] at h
      split
      · rfl
      · next c3 =>
        rw [if_neg c3] at h
        rw [toc] at h ⊢
        split
        · rfl
        · next g hg => rw [hg] at h; cases h
def txB (x : Int32) : Bool := !decide (x < 32) && !decide (126 < x)
theorem clb_q {ko kc : Nat → Int32} {w : Int32} {i : IS} (h : clb ko kc (okd (iK i) (iO i) (iQ i) 0) w = true) : 0 < iQ i := by
  rcases Nat.eq_zero_or_pos (iQ i) with q | q
  · rw [okd, if_neg (by omega)] at h
    exact absurd h (by
      rw [clb, cpl]
      simp)
  · exact q
