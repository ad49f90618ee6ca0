/-! THEORY 5: the quick reading of both -/
section
variable {b : Nat → Int32} {n : Nat} {ec : Int32} {ko kc ki : Nat → Int32} {kr ku : Int32} {zs : Nat → Nat} {zw : Nat → Int32} {zr zo : Nat → Bool} {lt : Bool}
/-- the open islands' kinds are complete -/
def kC (zs : Nat → Nat) (i : IS) : Prop := ∀ r, r < iQ i → cplM zs (kd i r) = true
theorem okd_kd {i : IS} (hk9 : kOk i) {g : Nat} (hg : g < iQ i) : okd (iK i) (iO i) (iQ i) g = nI (kd i (iQ i - 1 - g)) := by
  rw [okd, if_pos (by omega)]
  exact (kd_eq hk9 (by omega)).2
theorem clb6 {w : Int32} : clb ko kc 6 w = false := by
  rw [clb, cpl]
  simp
theorem skG_first {x : Int32} : ∀ (f k m : Nat), k + f ≤ 32 → k ≤ m → m < k + f → bt x m = true → (∀ r, k ≤ r → r < m → bt x r = false) → skG x f k = some m
  | 0, _, _, _, h1, h2, _, _ => absurd h2 (by omega)
  | f + 1, k, m, h0, h1, h2, h3, h4 => by
    rw [skG, hk_bt x (by omega)]
    by_cases e : k = m
    · subst e
      rw [if_pos h3]
    · rw [if_neg (by rw [h4 k (by omega) (by omega)]; exact Bool.false_ne_true)]
      exact skG_first f (k + 1) m (by omega) (by omega) (by omega) h3 (fun r g1 g2 => h4 r (by omega) g2)
theorem iicG_first {ik io : Nat → Int32} {iq : Nat} {w : Int32} : ∀ (f j m : Nat), j ≤ m → m < j + f → clb ko kc (okd ik io iq m) w = true → (∀ r, j ≤ r → r < m → clb ko kc (okd ik io iq r) w = false) → iicG ko kc ik io iq w f j = some m
  | 0, _, _, h1, h2, _, _ => absurd h2 (by omega)
  | f + 1, j, m, h1, h2, h3, h4 => by
    rw [iicG]
    by_cases e : j = m
    · subst e
      rw [if_pos h3]
    · rw [if_neg (by rw [h4 j (by omega) (by omega)]; exact Bool.false_ne_true)]
      exact iicG_first f (j + 1) m (by omega) (by omega) h3 (fun r g1 g2 => h4 r (by omega) g2)
theorem iicG_none {ik io : Nat → Int32} {iq : Nat} {w : Int32} : ∀ (f j : Nat), (∀ r, j ≤ r → r < j + f → clb ko kc (okd ik io iq r) w = false) → iicG ko kc ik io iq w f j = none
  | 0, _, _ => rfl
  | f + 1, j, h => by
    rw [iicG, if_neg (by rw [h j (by omega) (by omega)]; exact Bool.false_ne_true)]
    exact iicG_none f (j + 1) (fun r g1 g2 => h r (by omega) (by omega))
/-- the innermost is closed by the word of q bytes -/
theorem clb0_iff (hW : wRel ko kc zs zw) (htx : ∀ p, p < n → txB (b p) = true) (hB : bRel kr ku zr zo) {i : IS} (hkk : kOk i) (hc : kC zs i) {j q : Nat} (hq : 1 ≤ q) (hq3 : q ≤ 3) : clb ko kc (okd (iK i) (iO i) (iQ i) 0) (wAt b n ec j q) = true ↔ cC b n ec zs zw i j q := by
  have hH := kH_eq hkk
  rw [hH.2.1]
  by_cases h0 : iQ i = 0
  · rw [hH.2.2.2 h0]
    constructor
    · intro h
      rw [show nI 6 = 6 from rfl, clb6] at h
      cases h
    · intro h
      exact absurd (hH.2.2.2 h0) h.1
  · have h6 := hH.2.2.1 (by omega)
    rw [clb_eq hW htx hq hq3 h6.1]
    have : cplM zs (csH i) = true := by rw [h6.2]; exact hc _ (by omega)
    rw [this, Bool.true_and]
    exact ⟨fun h => ⟨by omega, h⟩, fun h => h.2⟩
theorem clbg_iff (hW : wRel ko kc zs zw) (htx : ∀ p, p < n → txB (b p) = true) (hB : bRel kr ku zr zo) {i : IS} (hkk : kOk i) (hc : kC zs i) {j q g : Nat} (hq : 1 ≤ q) (hq3 : q ≤ 3) (hg : g < iQ i) : clb ko kc (okd (iK i) (iO i) (iQ i) g) (wAt b n ec j q) = sq b n ec zs zw (6 + kd i (iQ i - 1 - g)) j q := by
  rw [okd_kd hkk hg, clb_eq hW htx hq hq3 (kd_eq hkk (by omega)).1, hc _ (by omega), Bool.true_and]
theorem opn_bt (hW : wRel ko kc zs zw) (htx : ∀ p, p < n → txB (b p) = true) (hB : bRel kr ku zr zo) {i : IS} (hkk : kOk i) {j q k : Nat} (hq : 1 ≤ q) (hq3 : q ≤ 3) (hk9 : k < 6) : bt (kw ko kc ko (wAt b n ec j q) &&& alw ki kr ku (okd (iK i) (iO i) (iQ i) 0)) k = true ↔ oC b n ec zs zw zr zo ki i j q k := by
  have hH := kH_eq hkk
  rw [b_and, kwo_eq hW htx hq hq3 hk9, hH.2.1, oC, csB_bt hB hH.1 hk9]
  cases cplM zs k <;> cases sq b n ec zs zw k j q <;> cases bt (alw ki kr ku (nI (csH i))) k <;> simp
/-- a candidate's word is no empty one -/
theorem wAt_nz (hW : wRel ko kc zs zw) (htx : ∀ p, p < n → txB (b p) = true) (hB : bRel kr ku zr zo) {w j q : Nat} (hw : w < 12) (hq3 : q ≤ 3) (h : sq b n ec zs zw w j q = true) : ¬ wAt b n ec j q = 0 := by
  have hq := sq_1 h
  obtain ⟨h1, h2⟩ := (wM_iff (ec := ec) (j := j) hW htx hq hq3 hw).mpr (sq_iff.mp h)
  intro z
  exact h2 ((pk_0 (hW.1 w) (hW.2.1 w hw)).mp (h1.trans z))
theorem rw_take (hW : wRel ko kc zs zw) (htx : ∀ p, p < n → txB (b p) = true) (hB : bRel kr ku zr zo) {j : Nat} {i : IS} {q : Nat} (h : (!decide (wAt b n ec j (q + 1) = 0) && (tkw lt ko kc ki kr ku (wAt b n ec j (q + 1)) (nI j) (nI (j + (q + 1))) i).1) = true) : rwG lt b n ec ko kc ki kr ku j i (q + 1) = (q + 1, (tkw lt ko kc ki kr ku (wAt b n ec j (q + 1)) (nI j) (nI (j + (q + 1))) i).2) := by
  rw [rwG, if_pos h]
theorem rw_skip (hW : wRel ko kc zs zw) (htx : ∀ p, p < n → txB (b p) = true) (hB : bRel kr ku zr zo) {j : Nat} {i : IS} {L : Nat} : ∀ q, L ≤ q → (∀ r, L ≤ r → r < q → (tkw lt ko kc ki kr ku (wAt b n ec j (r + 1)) (nI j) (nI (j + (r + 1))) i).1 = false) → rwG lt b n ec ko kc ki kr ku j i q = rwG lt b n ec ko kc ki kr ku j i L
  | 0, h, _ => by rw [show L = 0 by omega]
  | q + 1, h, g => by
    by_cases e : L = q + 1
    · rw [e]
    · rw [rwG, if_neg (by rw [g q (by omega) (by omega)]; simp)]
      exact rw_skip hW htx hB q (by omega) (fun r g1 g2 => g r g1 (by omega))
/-- no candidate of q bytes: nothing is taken -/
theorem tkw_none (hW : wRel ko kc zs zw) (htx : ∀ p, p < n → txB (b p) = true) (hB : bRel kr ku zr zo) {i : IS} (hkk : kOk i) (hc : kC zs i) {j q : Nat} {x y : Int32} (hq : 1 ≤ q) (hq3 : q ≤ 3) (h1 : ¬ cC b n ec zs zw i j q) (h2 : iQ i < 8 → ∀ k, k < 6 → ¬ oC b n ec zs zw zr zo ki i j q k) (h3 : zr (csH i) = false → ∀ r, r + 1 < iQ i → ¬ xC b n ec zs zw i j q r) : (tkw lt ko kc ki kr ku (wAt b n ec j q) x y i).1 = false := by
  have hH := kH_eq hkk
  rw [tkw, if_neg (fun z => h1 ((clb0_iff hW htx hB hkk hc hq hq3).mp z))]
  rw [if_neg (fun z => by
    simp only [Bool.and_eq_true, Bool.not_eq_true', decide_eq_false_iff_not, decide_eq_true_eq] at z
    obtain ⟨k, k1, k2⟩ := (m6_nz (m6_and m6_kw)).mp z.1
    exact h2 z.2 k k1 ((opn_bt hW htx hB hkk hq hq3 k1).mp k2))]
  split
  · rfl
  · next c =>
    simp only [Bool.or_eq_true, decide_eq_true_eq, not_or] at c
    have hq0 : iQ i ≠ 0 := fun z => c.1 (by rw [hH.2.1, hH.2.2.2 z]; rfl)
    have h6 := hH.2.2.1 (by omega)
    have hz : zr (csH i) = false := by
      have := c.2
      rw [hH.2.1, hk_bt kr (by omega), (hB _ h6.1).1] at this
      exact ts_nt this
    rw [toc, iic, iicG_none (iQ i - 1) 1 (fun r g1 g2 => by
      rw [clbg_iff hW htx hB hkk hc hq hq3 (by omega)]
      exact ts_nt (h3 hz (iQ i - 1 - r) (by omega)))]
theorem tkw_c (hW : wRel ko kc zs zw) (htx : ∀ p, p < n → txB (b p) = true) (hB : bRel kr ku zr zo) {i : IS} (hkk : kOk i) (hc : kC zs i) {j q : Nat} {x y : Int32} (hq : 1 ≤ q) (hq3 : q ≤ 3) (h1 : cC b n ec zs zw i j q) : tkw lt ko kc ki kr ku (wAt b n ec j q) x y i = (true, fnI y 0 i) := by
  rw [tkw, if_pos ((clb0_iff hW htx hB hkk hc hq hq3).mpr h1)]
theorem tkw_o (hW : wRel ko kc zs zw) (htx : ∀ p, p < n → txB (b p) = true) (hB : bRel kr ku zr zo) {i : IS} (hkk : kOk i) (hc : kC zs i) {j q k : Nat} {x y : Int32} (hq : 1 ≤ q) (hq3 : q ≤ 3) (h1 : ¬ cC b n ec zs zw i j q) (h8 : iQ i < 8) (hk9 : k < 6) (h2 : oC b n ec zs zw zr zo ki i j q k) (h3 : ∀ k', k' < k → ¬ oC b n ec zs zw zr zo ki i j q k') : tkw lt ko kc ki kr ku (wAt b n ec j q) x y i = (true, bgI (nI k) x i) := by
  have h2' := (opn_bt hW htx hB hkk hq hq3 hk9).mpr h2
  rw [tkw, if_neg (fun z => h1 ((clb0_iff hW htx hB hkk hc hq hq3).mp z)), if_pos (by
    simp only [Bool.and_eq_true, Bool.not_eq_true', decide_eq_false_iff_not, decide_eq_true_eq]
    exact ⟨(m6_nz (m6_and m6_kw)).mpr ⟨k, hk9, h2'⟩, h8⟩)]
  rw [skG_first 6 0 k (by decide) (by omega) (by omega) h2' (fun r _ g2 => ts_nt (fun z => h3 r g2 ((opn_bt hW htx hB hkk hq hq3 (by omega)).mp z)))]
  rfl
theorem tkw_x (hW : wRel ko kc zs zw) (htx : ∀ p, p < n → txB (b p) = true) (hB : bRel kr ku zr zo) {i : IS} (hkk : kOk i) (hc : kC zs i) {j q r : Nat} {x y : Int32} (hq : 1 ≤ q) (hq3 : q ≤ 3) (h1 : ¬ cC b n ec zs zw i j q) (h2 : iQ i < 8 → ∀ k, k < 6 → ¬ oC b n ec zs zw zr zo ki i j q k) (hz : zr (csH i) = false) (hr : r + 1 < iQ i) (h3 : xC b n ec zs zw i j q r) (h4 : ∀ r', r < r' → r' + 1 < iQ i → ¬ xC b n ec zs zw i j q r') : tkw lt ko kc ki kr ku (wAt b n ec j q) x y i = (true, if lt = true then fnI y 0 (guG x 1 (iQ i - (r + 1)) i) else lfI i) := by
  have hH := kH_eq hkk
  have h6 := hH.2.2.1 (by omega)
  rw [tkw, if_neg (fun z => h1 ((clb0_iff hW htx hB hkk hc hq hq3).mp z))]
  rw [if_neg (fun z => by
    simp only [Bool.and_eq_true, Bool.not_eq_true', decide_eq_false_iff_not, decide_eq_true_eq] at z
    obtain ⟨k, k1, k2⟩ := (m6_nz (m6_and m6_kw)).mp z.1
    exact h2 z.2 k k1 ((opn_bt hW htx hB hkk hq hq3 k1).mp k2))]
  rw [if_neg (fun z => by
    rw [hH.2.1, hk_bt kr (by omega), (hB _ h6.1).1, hz, Bool.or_false, decide_eq_true_eq] at z
    have := (nI_eq (b := 6) (by omega) (by decide)).mp z
    omega)]
  rw [toc, iic, iicG_first (iQ i - 1) 1 (iQ i - (r + 1)) (by omega) (by omega) (by
    rw [clbg_iff hW htx hB hkk hc hq hq3 (by omega), show iQ i - 1 - (iQ i - (r + 1)) = r by omega]
    exact h3) (fun r' g1 g2 => by
    rw [clbg_iff hW htx hB hkk hc hq hq3 (by omega)]
    exact ts_nt (h4 _ (by omega) (by omega)))]
end
