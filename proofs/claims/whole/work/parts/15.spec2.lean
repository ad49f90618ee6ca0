/-! choosing the islands of a best reading -/
abbrev iK (i : IS) : Nat → Int32 := i.1
abbrev iA (i : IS) : Nat → Int32 := i.2.1
abbrev iE (i : IS) : Nat → Int32 := i.2.2.1
abbrev iT (i : IS) : Nat → Int32 := i.2.2.2.1
abbrev iP (i : IS) : Nat → Int32 := i.2.2.2.2.1
abbrev iD (i : IS) : Nat → Int32 := i.2.2.2.2.2.1
abbrev iO (i : IS) : Nat → Int32 := i.2.2.2.2.2.2.1
abbrev iM (i : IS) : Nat := i.2.2.2.2.2.2.2.1
abbrev iQ (i : IS) : Nat := i.2.2.2.2.2.2.2.2.1
abbrev iL (i : IS) : Nat := i.2.2.2.2.2.2.2.2.2.1
abbrev iR (i : IS) : Bool := i.2.2.2.2.2.2.2.2.2.2
def wIs (tc : Nat → ClassId) (a : Nat → Nat) (i : IS) : va_W := wI tc a (iK i) (iA i) (iE i) (iT i) (iP i) (iD i) (iO i) (iM i) (iQ i) (iL i) (iR i)
def bgI (x y : Int32) (i : IS) : IS := (upd (iK i) (iM i) x, upd (iA i) (iM i) y, iE i, iT i, upd (iP i) (iM i) (opI (iO i) (iQ i) 0), upd (iD i) (iM i) (nI (iQ i)), upd (iO i) (iQ i) (nI (iM i)), iM i + 1, iQ i + 1, iL i, iR i)
def fnI (x y : Int32) (i : IS) : IS := (iK i, iA i, upd (iE i) (iO i (iQ i - 1)).toNatClampNeg x, upd (iT i) (iO i (iQ i - 1)).toNatClampNeg y, iP i, iD i, iO i, iM i, iQ i - 1, iL i, iR i)
theorem bpG_lt {kr : Int32} {mc : Nat → Int32} {bs : Nat → Int64} {f t k h : Nat} : ∀ {n q z : Nat}, bpG kr mc bs f t k h n q = some z → q ≤ z ∧ z < q + n
  | 0, _, _, e => by simp [bpG] at e
  | n + 1, q, z, e => by
    rw [bpG] at e
    split at e
    · cases e; omega
    · have := bpG_lt e; omega
theorem bp_lt {kr : Int32} {mc : Nat → Int32} {bs : Nat → Int64} {f t k h z : Nat} (e : bp kr mc bs f t k h = some z) : f < z ∧ z < t := by
  have := bpG_lt e; omega
def baG (kr : Int32) (mc : Nat → Int32) (bs : Nat → Int64) (f t h : Nat) (od : Int32) : Nat → Nat → Option (Nat × Nat)
  | 0, _ => none
  | n + 1, k => match (if hk od (nI k) = true then bp kr mc bs f t k h else none) with
    | some z => some (k, z)
    | none => baG kr mc bs f t h od n (k + 1)
theorem baG_lt {kr : Int32} {mc : Nat → Int32} {bs : Nat → Int64} {f t h : Nat} {od : Int32} : ∀ {n k : Nat} {z : Nat × Nat}, baG kr mc bs f t h od n k = some z → z.1 < k + n ∧ f < z.2 ∧ z.2 < t
  | 0, _, _, e => by simp [baG] at e
  | n + 1, k, z, e => by
    rw [baG] at e
    split at e
    · next q hq =>
      cases e
      split at hq
      · have := bp_lt hq
        exact ⟨by show k < k + (n + 1); omega, this⟩
      · cases hq
    · have := baG_lt e
      exact ⟨by omega, this.2⟩
def baR (y : Int32) (r : Option (Nat × Nat)) (bc : Nat → Int32) (i : IS) : (Nat → Int32) × IS := match r with
  | some z => (upd bc (iM i) (nI z.2), bgI (nI z.1) y i)
  | none => (bc, i)
def csT (mm : Nat) (bc : Nat → Int32) (i : IS) : Nat := if iQ i = 0 then mm else (bc (iO i (iQ i - 1)).toNatClampNeg).toNatClampNeg
def csH (i : IS) : Nat := (okd (iK i) (iO i) (iQ i) 0).toNatClampNeg
def csS (ki : Nat → Int32) (kr ku : Int32) (mp mb mo mc : Nat → Int32) (mm : Nat) (bs : Nat → Int64) (j : Nat) (q : (Nat → Int32) × IS) : (Nat → Int32) × IS :=
  if j = csT mm q.1 q.2 then (q.1, fnI (mb j) 0 q.2) else baR (mp j) (baG kr mc bs j (csT mm q.1 q.2) (csH q.2) (mo j &&& alw ki kr ku (nI (csH q.2))) 6 0) q.1 q.2
def csG (ki : Nat → Int32) (kr ku : Int32) (mp mb mo mc : Nat → Int32) (mm : Nat) (bs : Nat → Int64) : Nat → Nat → (Nat → Int32) × IS → (Nat → Int32) × IS
  | 0, _, q => q
  | n + 1, j, q => csG ki kr ku mp mb mo mc mm bs n (j + 1) (csS ki kr ku mp mb mo mc mm bs j q)
/-- what holds while the islands are chosen: c r is the mark that closes the r-th open one -/
def csOk (mm j : Nat) (q : (Nat → Int32) × IS) : Prop := iM q.2 ≤ j ∧ iQ q.2 ≤ iM q.2 ∧ opOk (iO q.2) (iQ q.2) (iM q.2) ∧ (∀ r, r < iQ q.2 → ∃ k, k < 6 ∧ iK q.2 (iO q.2 r).toNatClampNeg = nI k) ∧ ∃ cl : Nat → Nat, (∀ r, r < iQ q.2 → j ≤ cl r ∧ cl r < mm ∧ q.1 (iO q.2 r).toNatClampNeg = nI (cl r)) ∧ (∀ r, r + 1 < iQ q.2 → cl (r + 1) < cl r)
theorem csOk_T {mm j : Nat} {q : (Nat → Int32) × IS} (h : csOk mm j q) (hm : mm ≤ 48) : csT mm q.1 q.2 ≤ mm ∧ (0 < iQ q.2 → j ≤ csT mm q.1 q.2 ∧ csT mm q.1 q.2 < mm ∧ q.1 (iO q.2 (iQ q.2 - 1)).toNatClampNeg = nI (csT mm q.1 q.2)) := by
  obtain ⟨-, -, -, -, cl, h1, -⟩ := h
  rw [csT]
  by_cases hq : iQ q.2 = 0
  · rw [if_pos hq]
    exact ⟨Nat.le_refl _, fun h => absurd hq (by omega)⟩
  · rw [if_neg hq]
    obtain ⟨g1, g2, g3⟩ := h1 (iQ q.2 - 1) (by omega)
    rw [g3, nI_clamp (by omega)]
    exact ⟨by omega, fun _ => ⟨g1, g2, rfl⟩⟩
theorem csOk_H {mm j : Nat} {q : (Nat → Int32) × IS} (h : csOk mm j q) : csH q.2 ≤ 6 ∧ okd (iK q.2) (iO q.2) (iQ q.2) 0 = nI (csH q.2) ∧ (0 < iQ q.2 → csH q.2 < 6) := by
  obtain ⟨-, -, -, h4, -⟩ := h
  rw [csH]
  by_cases hq : 0 < iQ q.2
  · obtain ⟨k, k1, k2⟩ := h4 (iQ q.2 - 1) (by omega)
    rw [show okd (iK q.2) (iO q.2) (iQ q.2) 0 = nI k by rw [okd, if_pos (by omega)]; exact k2, nI_clamp (by omega)]
    exact ⟨by omega, rfl, fun _ => k1⟩
  · rw [show okd (iK q.2) (iO q.2) (iQ q.2) 0 = nI 6 by rw [okd, if_neg (by omega)]; rfl, nI_clamp (by decide)]
    exact ⟨Nat.le_refl _, rfl, fun h => absurd h hq⟩
theorem csOk_step {ki : Nat → Int32} {kr ku : Int32} {mp mb mo mc : Nat → Int32} {mm : Nat} {bs : Nat → Int64} {j : Nat} {q : (Nat → Int32) × IS} (h : csOk mm j q) (hm : mm ≤ 48) (hj : j < mm) : csOk mm (j + 1) (csS ki kr ku mp mb mo mc mm bs j q) := by
  have hT := csOk_T h hm
  obtain ⟨h1, h2, h3, h4, cl, h5, h6⟩ := h
  obtain ⟨bc, ik, ia, ie, it, ip, id, io, im, iq, il, ir⟩ := q
  simp only [iM, iQ, iO, iK] at h1 h2 h3 h4 h5 h6 hT
  have hdec : ∀ r r', r < r' → r' < iq → cl r' < cl r := by
    intro r r' hr
    induction r' with
    | zero => omega
    | succ r' ih =>
      intro hq
      have g := h6 r' hq
      rcases Nat.lt_or_ge r r' with z | z
      · have := ih z (by omega); omega
      · have : r = r' := by omega
        subst this; exact g
  rw [csS]
  by_cases e : j = csT mm bc (ik, ia, ie, it, ip, id, io, im, iq, il, ir)
  · rw [if_pos e]
    have hq : 0 < iq := by
      rcases Nat.eq_zero_or_pos iq with z | z
      · rw [csT, if_pos z] at e; omega
      · exact z
    obtain ⟨g1, g2, g3⟩ := hT.2 hq
    refine ⟨by show im ≤ j + 1; omega, by show iq - 1 ≤ im; omega, fun r hr => h3 r (by show r < iq; have : r < iq - 1 := hr; omega), fun r hr => h4 r (by have : r < iq - 1 := hr; omega), cl, fun r hr => ?_, fun r hr => h6 r (by have : r + 1 < iq - 1 := hr; omega)⟩
    have hr : r < iq - 1 := hr
    obtain ⟨k1, k2, k3⟩ := h5 r (by omega)
    refine ⟨?_, k2, k3⟩
    obtain ⟨l1, l2, l3⟩ := h5 (iq - 1) (by omega)
    have e2 : cl (iq - 1) = j := by
      have := l3.symm.trans g3
      rw [nI_eq (by omega) (by omega)] at this
      rw [this]; exact e.symm
    have := hdec r (iq - 1) hr (by omega)
    omega
  · rw [if_neg e]
    have hcl : ∀ r, r < iq → j + 1 ≤ cl r := by
      intro r hr
      obtain ⟨l1, l2, l3⟩ := h5 (iq - 1) (by omega)
      obtain ⟨g1, g2, g3⟩ := hT.2 (by omega)
      have e2 : cl (iq - 1) = csT mm bc (ik, ia, ie, it, ip, id, io, im, iq, il, ir) := by
        have := l3.symm.trans g3
        rwa [nI_eq (by omega) (by omega)] at this
      rcases Nat.lt_or_ge r (iq - 1) with z | z
      · have := hdec r (iq - 1) z (by omega); omega
      · have : r = iq - 1 := by omega
        subst this; omega
    cases hb : baG kr mc bs j (csT mm bc (ik, ia, ie, it, ip, id, io, im, iq, il, ir)) (csH (ik, ia, ie, it, ip, id, io, im, iq, il, ir)) (mo j &&& alw ki kr ku (nI (csH (ik, ia, ie, it, ip, id, io, im, iq, il, ir)))) 6 0 with
    | none =>
      exact ⟨by show im ≤ j + 1; omega, h2, h3, h4, cl, fun r hr => ⟨hcl r hr, (h5 r hr).2⟩, h6⟩
    | some z =>
      obtain ⟨b1, b2, b3⟩ := baG_lt hb
      obtain ⟨k, z⟩ := z
      simp only at b1 b2 b3
      refine ⟨by show im + 1 ≤ j + 1; omega, by show iq + 1 ≤ im + 1; omega, fun r hr => ?_, fun r hr => ?_, fun r => if r = iq then z else cl r, fun r hr => ?_, fun r hr => ?_⟩
      · have hr : r < iq + 1 := hr
        show ∃ t, t < im + 1 ∧ upd io iq (nI im) r = nI t
        by_cases hx : r = iq
        · subst hx; exact ⟨im, by omega, pk_us⟩
        · obtain ⟨t, t1, t2⟩ := h3 r (by omega)
          exact ⟨t, by omega, by rw [pk_un hx]; exact t2⟩
      · have hr : r < iq + 1 := hr
        show ∃ k', k' < 6 ∧ upd ik im (nI k) (upd io iq (nI im) r).toNatClampNeg = nI k'
        by_cases hx : r = iq
        · subst hx
          exact ⟨k, by omega, by rw [pk_us, nI_clamp (by omega), pk_us]⟩
        · obtain ⟨t, t1, t2⟩ := h3 r (by omega)
          obtain ⟨k', k1, k2⟩ := h4 r (by omega)
          refine ⟨k', k1, ?_⟩
          rw [pk_un hx, pk_un (by rw [t2, nI_clamp (by omega)]; omega)]
          exact k2
      · have hr : r < iq + 1 := hr
        show j + 1 ≤ (if r = iq then z else cl r) ∧ (if r = iq then z else cl r) < mm ∧ upd bc im (nI z) (upd io iq (nI im) r).toNatClampNeg = nI (if r = iq then z else cl r)
        by_cases hx : r = iq
        · subst hx
          rw [if_pos rfl, pk_us, nI_clamp (by omega), pk_us]
          have := hT.1
          exact ⟨by omega, by omega, rfl⟩
        · obtain ⟨t, t1, t2⟩ := h3 r (by omega)
          obtain ⟨k1, k2, k3⟩ := h5 r (by omega)
          rw [if_neg hx, pk_un hx, pk_un (by rw [t2, nI_clamp (by omega)]; omega)]
          exact ⟨hcl r (by omega), k2, k3⟩
      · have hr : r + 1 < iq + 1 := hr
        show (if r + 1 = iq then z else cl (r + 1)) < (if r = iq then z else cl r)
        rw [if_neg (by omega : ¬ r = iq)]
        by_cases hx : r + 1 = iq
        · rw [if_pos hx]
          obtain ⟨l1, l2, l3⟩ := h5 r (by omega)
          obtain ⟨g1, g2, g3⟩ := hT.2 (by omega)
          have : r = iq - 1 := by omega
          subst this
          have := l3.symm.trans g3
          rw [nI_eq (by omega) (by omega)] at this
          omega
        · rw [if_neg hx]
          exact h6 r (by omega)
