/-! THE LAW: its cases with the relation, one step, the loop -/
theorem IR_pok {n : Nat} {i j : IS} (h : IR n i j) : pOk (iP j) (iM j) := fun k hk9 => by
  rw [← h.1] at hk9
  rw [← (h.2.2.2.2.1 k hk9).2.2.2.2]
  exact h.2.2.2.2.2.1 k hk9
section XLP
variable {p : Program} {l : Launch} {e : Env} {R : Room} {s : State} {m : MethodId} {args : Array Value} {below : List Frame} {meth : Method} {c : Code} {Q : State → Prop} {G : va_G} {tc : Nat → ClassId} {A : Nat → Prop} {cells slots : Nat}
set_option maxRecDepth 100000 in
theorem s_feed (hl9 : l.stackTraces = false) (C : CX p R s m args meth c cL_law 9 RL (some .boolean) G tc A 60) {b L : Nat} {xs : Nat → Int32} (hX : va_X b L xs s s.heap) (hbl : b < s.heap.size) (hbA : ¬ A b) (hL : L < 2 ^ 31) (qo qd a0 : Nat) (u : Nat → Nat → Nat) (aX : Nat → Nat) (o : Nat → Int64) (od : Nat → UInt64) {S : CS} {T : RS} (h : Rel S T) (i : Nat) (hi : i + 5 ≤ L) (hR : cells + 3 ≤ R.cells ∧ slots + 18 ≤ R.slots) (kk : ∀ (o9 : Nat → Int64) (od9 : Nat → UInt64) (S9 : CS) (T9 : RS), Rel S9 T9 → xAT p l e R s m args below meth c Q G A 9 (cells + 3) (slots + 18) (lwW tc qo qd a0 u aX o9 od9 S9 T9) [some (.ref b), some (.ref a0), some (.ref (aX 0)), some (.ref qo), some (.ref qd), some (.int (nI i)), none, none, none] 1624 []) : xAT p l e R s m args below meth c Q G A 9 cells slots (lwW tc qo qd a0 u aX o od S T) [some (.ref b), some (.ref a0), some (.ref (aX 0)), some (.ref qo), some (.ref qd), some (.int (nI i)), none, none, none] 172 [] := by
  have hI := h.2.2.2.2.2.2.2.2.2
  have r9 := r_feed h ((xs (i + 1)).toInt64 <<< ((nI 32).toInt64 &&& 63) ||| (xs (i + 2)).toInt64 &&& 4294967295)
  refine q_feed hl9 C hX hbl hbA hL qo qd a0 u aX o od S T i hi hR h.2.2.1 (h.2.1 ▸ h.2.2.1) _ rfl r9.1 r9.2.1 ?_
  exact xwid (by omega) (by omega) (kk _ _ _ _ r9.2.2)
set_option maxRecDepth 100000 in
theorem s_cut (hl9 : l.stackTraces = false) (C : CX p R s m args meth c cL_law 9 RL (some .boolean) G tc A 60) {b L : Nat} {xs : Nat → Int32} (hX : va_X b L xs s s.heap) (hbl : b < s.heap.size) (hbA : ¬ A b) (hL : L < 2 ^ 31) (qo qd a0 : Nat) (u : Nat → Nat → Nat) (aX : Nat → Nat) (o : Nat → Int64) (od : Nat → UInt64) {S : CS} {T : RS} (h : Rel S T) (i : Nat) (hi : i + 5 ≤ L) (hR : cells + 3 ≤ R.cells ∧ slots + 18 ≤ R.slots) (kk : ∀ (o9 : Nat → Int64) (od9 : Nat → UInt64) (S9 : CS) (T9 : RS), Rel S9 T9 → xAT p l e R s m args below meth c Q G A 9 (cells + 3) (slots + 18) (lwW tc qo qd a0 u aX o9 od9 S9 T9) [some (.ref b), some (.ref a0), some (.ref (aX 0)), some (.ref qo), some (.ref qd), some (.int (nI i)), none, none, none] 1624 []) : xAT p l e R s m args below meth c Q G A 9 cells slots (lwW tc qo qd a0 u aX o od S T) [some (.ref b), some (.ref a0), some (.ref (aX 0)), some (.ref qo), some (.ref qd), some (.int (nI i)), none, none, none] 260 [] := by
  have hI := h.2.2.2.2.2.2.2.2.2
  have r9 := r_cut h (xs (i + 1))
  refine q_cut hl9 C hX hbl hbA hL qo qd a0 u aX o od S T i hi hR h.2.2.1 (h.2.1 ▸ h.2.2.1) _ rfl r9.1 r9.2.1 ?_
  exact xwid (by omega) (by omega) (kk _ _ _ _ r9.2.2)
set_option maxRecDepth 100000 in
theorem s_set (hl9 : l.stackTraces = false) (C : CX p R s m args meth c cL_law 9 RL (some .boolean) G tc A 60) {b L : Nat} {xs : Nat → Int32} (hX : va_X b L xs s s.heap) (hbl : b < s.heap.size) (hbA : ¬ A b) (hL : L < 2 ^ 31) (qo qd a0 : Nat) (u : Nat → Nat → Nat) (aX : Nat → Nat) (o : Nat → Int64) (od : Nat → UInt64) {S : CS} {T : RS} (h : Rel S T) (i : Nat) (hi : i + 5 ≤ L) (hR : cells + 3 ≤ R.cells ∧ slots + 18 ≤ R.slots) (kk : ∀ (o9 : Nat → Int64) (od9 : Nat → UInt64) (S9 : CS) (T9 : RS), Rel S9 T9 → xAT p l e R s m args below meth c Q G A 9 (cells + 3) (slots + 18) (lwW tc qo qd a0 u aX o9 od9 S9 T9) [some (.ref b), some (.ref a0), some (.ref (aX 0)), some (.ref qo), some (.ref qd), some (.int (nI i)), none, none, none] 1624 []) : xAT p l e R s m args below meth c Q G A 9 cells slots (lwW tc qo qd a0 u aX o od S T) [some (.ref b), some (.ref a0), some (.ref (aX 0)), some (.ref qo), some (.ref qd), some (.int (nI i)), none, none, none] 316 [] := by
  have hI := h.2.2.2.2.2.2.2.2.2
  have r9 := r_set h (xs (i + 1)) (xs (i + 2))
  refine q_set hl9 C hX hbl hbA hL qo qd a0 u aX o od S T i hi hR h.2.2.1 (h.2.1 ▸ h.2.2.1) _ rfl r9.1 r9.2.1 ?_
  exact xwid (by omega) (by omega) (kk _ _ _ _ r9.2.2)
set_option maxRecDepth 100000 in
theorem s_byteAt (hl9 : l.stackTraces = false) (C : CX p R s m args meth c cL_law 9 RL (some .boolean) G tc A 60) {b L : Nat} {xs : Nat → Int32} (hX : va_X b L xs s s.heap) (hbl : b < s.heap.size) (hbA : ¬ A b) (hL : L < 2 ^ 31) (qo qd a0 : Nat) (u : Nat → Nat → Nat) (aX : Nat → Nat) (o : Nat → Int64) (od : Nat → UInt64) {S : CS} {T : RS} (h : Rel S T) (i : Nat) (hi : i + 5 ≤ L) (hR : cells + 3 ≤ R.cells ∧ slots + 18 ≤ R.slots) (kk : ∀ (o9 : Nat → Int64) (od9 : Nat → UInt64) (S9 : CS) (T9 : RS), Rel S9 T9 → xAT p l e R s m args below meth c Q G A 9 (cells + 3) (slots + 18) (lwW tc qo qd a0 u aX o9 od9 S9 T9) [some (.ref b), some (.ref a0), some (.ref (aX 0)), some (.ref qo), some (.ref qd), some (.int (nI i)), none, none, none] 1624 []) : xAT p l e R s m args below meth c Q G A 9 cells slots (lwW tc qo qd a0 u aX o od S T) [some (.ref b), some (.ref a0), some (.ref (aX 0)), some (.ref qo), some (.ref qd), some (.int (nI i)), none, none, none] 397 [] := by
  have hI := h.2.2.2.2.2.2.2.2.2
  have r9 := r_byteAt h (xs (i + 1))
  refine q_byteAt hl9 C hX hbl hbA hL qo qd a0 u aX o od S T i hi hR h.2.2.1 (h.2.1 ▸ h.2.2.1) _ rfl r9.1 r9.2.1 ?_
  exact xwid (by omega) (by omega) (kk _ _ _ _ (by rw [ite_self]; exact r9.2.2))
set_option maxRecDepth 100000 in
theorem s_setEscape (hl9 : l.stackTraces = false) (C : CX p R s m args meth c cL_law 9 RL (some .boolean) G tc A 60) {b L : Nat} {xs : Nat → Int32} (hX : va_X b L xs s s.heap) (hbl : b < s.heap.size) (hbA : ¬ A b) (hL : L < 2 ^ 31) (qo qd a0 : Nat) (u : Nat → Nat → Nat) (aX : Nat → Nat) (o : Nat → Int64) (od : Nat → UInt64) {S : CS} {T : RS} (h : Rel S T) (i : Nat) (hi : i + 5 ≤ L) (hR : cells + 3 ≤ R.cells ∧ slots + 18 ≤ R.slots) (kk : ∀ (o9 : Nat → Int64) (od9 : Nat → UInt64) (S9 : CS) (T9 : RS), Rel S9 T9 → xAT p l e R s m args below meth c Q G A 9 (cells + 3) (slots + 18) (lwW tc qo qd a0 u aX o9 od9 S9 T9) [some (.ref b), some (.ref a0), some (.ref (aX 0)), some (.ref qo), some (.ref qd), some (.int (nI i)), none, none, none] 1624 []) : xAT p l e R s m args below meth c Q G A 9 cells slots (lwW tc qo qd a0 u aX o od S T) [some (.ref b), some (.ref a0), some (.ref (aX 0)), some (.ref qo), some (.ref qd), some (.int (nI i)), none, none, none] 453 [] := by
  have hI := h.2.2.2.2.2.2.2.2.2
  have r9 := r_esc h (xs (i + 1))
  refine q_setEscape hl9 C hX hbl hbA hL qo qd a0 u aX o od S T i hi hR  _ rfl r9.1 r9.2.1 ?_
  exact xwid (by omega) (by omega) (kk _ _ _ _ r9.2.2)
set_option maxRecDepth 100000 in
theorem s_setWord (hl9 : l.stackTraces = false) (C : CX p R s m args meth c cL_law 9 RL (some .boolean) G tc A 60) {b L : Nat} {xs : Nat → Int32} (hX : va_X b L xs s s.heap) (hbl : b < s.heap.size) (hbA : ¬ A b) (hL : L < 2 ^ 31) (qo qd a0 : Nat) (u : Nat → Nat → Nat) (aX : Nat → Nat) (o : Nat → Int64) (od : Nat → UInt64) {S : CS} {T : RS} (h : Rel S T) (i : Nat) (hi : i + 5 ≤ L) (hR : cells + 3 ≤ R.cells ∧ slots + 18 ≤ R.slots) (kk : ∀ (o9 : Nat → Int64) (od9 : Nat → UInt64) (S9 : CS) (T9 : RS), Rel S9 T9 → xAT p l e R s m args below meth c Q G A 9 (cells + 3) (slots + 18) (lwW tc qo qd a0 u aX o9 od9 S9 T9) [some (.ref b), some (.ref a0), some (.ref (aX 0)), some (.ref qo), some (.ref qd), some (.int (nI i)), none, none, none] 1624 []) : xAT p l e R s m args below meth c Q G A 9 cells slots (lwW tc qo qd a0 u aX o od S T) [some (.ref b), some (.ref a0), some (.ref (aX 0)), some (.ref qo), some (.ref qd), some (.int (nI i)), none, none, none] 509 [] := by
  have hI := h.2.2.2.2.2.2.2.2.2
  have r9 := r_word h (xs (i + 1)) (nb (xs (i + 2))) (xs (i + 3)) (xs (i + 4))
  refine q_setWord hl9 C hX hbl hbA hL qo qd a0 u aX o od S T i hi hR h.2.2.2.2.2.2.1.1 _ rfl r9.1 r9.2.1 ?_
  exact xwid (by omega) (by omega) (kk _ _ _ _ r9.2.2)
set_option maxRecDepth 100000 in
theorem s_setKind (hl9 : l.stackTraces = false) (C : CX p R s m args meth c cL_law 9 RL (some .boolean) G tc A 60) {b L : Nat} {xs : Nat → Int32} (hX : va_X b L xs s s.heap) (hbl : b < s.heap.size) (hbA : ¬ A b) (hL : L < 2 ^ 31) (qo qd a0 : Nat) (u : Nat → Nat → Nat) (aX : Nat → Nat) (o : Nat → Int64) (od : Nat → UInt64) {S : CS} {T : RS} (h : Rel S T) (i : Nat) (hi : i + 5 ≤ L) (hR : cells + 3 ≤ R.cells ∧ slots + 18 ≤ R.slots) (kk : ∀ (o9 : Nat → Int64) (od9 : Nat → UInt64) (S9 : CS) (T9 : RS), Rel S9 T9 → xAT p l e R s m args below meth c Q G A 9 (cells + 3) (slots + 18) (lwW tc qo qd a0 u aX o9 od9 S9 T9) [some (.ref b), some (.ref a0), some (.ref (aX 0)), some (.ref qo), some (.ref qd), some (.int (nI i)), none, none, none] 1624 []) : xAT p l e R s m args below meth c Q G A 9 cells slots (lwW tc qo qd a0 u aX o od S T) [some (.ref b), some (.ref a0), some (.ref (aX 0)), some (.ref qo), some (.ref qd), some (.int (nI i)), none, none, none] 624 [] := by
  have hI := h.2.2.2.2.2.2.2.2.2
  have r9 := r_kind h (xs (i + 1)) (nb (xs (i + 2))) (nb (xs (i + 3))) (xs (i + 4))
  refine q_setKind hl9 C hX hbl hbA hL qo qd a0 u aX o od S T i hi hR  _ rfl r9.1 r9.2.1 ?_
  exact xwid (by omega) (by omega) (kk _ _ _ _ r9.2.2)
set_option maxRecDepth 100000 in
theorem s_mark (hl9 : l.stackTraces = false) (C : CX p R s m args meth c cL_law 9 RL (some .boolean) G tc A 60) {b L : Nat} {xs : Nat → Int32} (hX : va_X b L xs s s.heap) (hbl : b < s.heap.size) (hbA : ¬ A b) (hL : L < 2 ^ 31) (qo qd a0 : Nat) (u : Nat → Nat → Nat) (aX : Nat → Nat) (o : Nat → Int64) (od : Nat → UInt64) {S : CS} {T : RS} (h : Rel S T) (i : Nat) (hi : i + 5 ≤ L) (hR : cells + 3 ≤ R.cells ∧ slots + 18 ≤ R.slots) (kk : ∀ (o9 : Nat → Int64) (od9 : Nat → UInt64) (S9 : CS) (T9 : RS), Rel S9 T9 → xAT p l e R s m args below meth c Q G A 9 (cells + 3) (slots + 18) (lwW tc qo qd a0 u aX o9 od9 S9 T9) [some (.ref b), some (.ref a0), some (.ref (aX 0)), some (.ref qo), some (.ref qd), some (.int (nI i)), none, none, none] 1624 []) : xAT p l e R s m args below meth c Q G A 9 cells slots (lwW tc qo qd a0 u aX o od S T) [some (.ref b), some (.ref a0), some (.ref (aX 0)), some (.ref qo), some (.ref qd), some (.int (nI i)), none, none, none] 841 [] := by
  have hI := h.2.2.2.2.2.2.2.2.2
  have r9 := r_mark h (xs (i + 1))
  refine q_mark hl9 C hX hbl hbA hL qo qd a0 u aX o od S T i hi hR h.2.2.1 (r_mm h).2 h.2.2.2.2.2.2.1.1 (h.2.1 ▸ h.2.2.1) _ rfl r9.1 r9.2.1 ?_
  exact xwid (by omega) (by omega) (kk _ _ _ _ (by rw [ite_self]; exact r9.2.2))
set_option maxRecDepth 100000 in
theorem s_islandCount (hl9 : l.stackTraces = false) (C : CX p R s m args meth c cL_law 9 RL (some .boolean) G tc A 60) {b L : Nat} {xs : Nat → Int32} (hX : va_X b L xs s s.heap) (hbl : b < s.heap.size) (hbA : ¬ A b) (hL : L < 2 ^ 31) (qo qd a0 : Nat) (u : Nat → Nat → Nat) (aX : Nat → Nat) (o : Nat → Int64) (od : Nat → UInt64) {S : CS} {T : RS} (h : Rel S T) (i : Nat) (hi : i + 5 ≤ L) (hR : cells + 3 ≤ R.cells ∧ slots + 18 ≤ R.slots) (kk : ∀ (o9 : Nat → Int64) (od9 : Nat → UInt64) (S9 : CS) (T9 : RS), Rel S9 T9 → xAT p l e R s m args below meth c Q G A 9 (cells + 3) (slots + 18) (lwW tc qo qd a0 u aX o9 od9 S9 T9) [some (.ref b), some (.ref a0), some (.ref (aX 0)), some (.ref qo), some (.ref qd), some (.int (nI i)), none, none, none] 1624 []) : xAT p l e R s m args below meth c Q G A 9 cells slots (lwW tc qo qd a0 u aX o od S T) [some (.ref b), some (.ref a0), some (.ref (aX 0)), some (.ref qo), some (.ref qd), some (.int (nI i)), none, none, none] 897 [] := by
  have hI := h.2.2.2.2.2.2.2.2.2
  refine q_islandCount hl9 C hX hbl hbA hL qo qd a0 u aX o od S T i hi hR  _ rfl (r_ask0 h).1 (fun hn => by rw [if_pos ((r_ask0 h).2 hn).1, hI.1]) ?_
  exact xwid (by omega) (by omega) (kk _ _ _ _ (by rw [ite_self]; exact h))
set_option maxRecDepth 100000 in
theorem s_kind (hl9 : l.stackTraces = false) (C : CX p R s m args meth c cL_law 9 RL (some .boolean) G tc A 60) {b L : Nat} {xs : Nat → Int32} (hX : va_X b L xs s s.heap) (hbl : b < s.heap.size) (hbA : ¬ A b) (hL : L < 2 ^ 31) (qo qd a0 : Nat) (u : Nat → Nat → Nat) (aX : Nat → Nat) (o : Nat → Int64) (od : Nat → UInt64) {S : CS} {T : RS} (h : Rel S T) (i : Nat) (hi : i + 5 ≤ L) (hR : cells + 3 ≤ R.cells ∧ slots + 18 ≤ R.slots) (kk : ∀ (o9 : Nat → Int64) (od9 : Nat → UInt64) (S9 : CS) (T9 : RS), Rel S9 T9 → xAT p l e R s m args below meth c Q G A 9 (cells + 3) (slots + 18) (lwW tc qo qd a0 u aX o9 od9 S9 T9) [some (.ref b), some (.ref a0), some (.ref (aX 0)), some (.ref qo), some (.ref qd), some (.int (nI i)), none, none, none] 1624 []) : xAT p l e R s m args below meth c Q G A 9 cells slots (lwW tc qo qd a0 u aX o od S T) [some (.ref b), some (.ref a0), some (.ref (aX 0)), some (.ref qo), some (.ref qd), some (.int (nI i)), none, none, none] 941 [] := by
  have hI := h.2.2.2.2.2.2.2.2.2
  have r9 := r_askI h (xs (i + 1))
  refine q_kind hl9 C hX hbl hbA hL qo qd a0 u aX o od S T i hi hR hI.2.1 (hI.1 ▸ hI.2.1) _ rfl r9.1 (fun hn => by obtain ⟨e9, -, k, k1, -, k3⟩ := r9.2 hn; rw [if_pos e9, k3, (hI.2.2.2.2.1 k k1).1]) ?_
  exact xwid (by omega) (by omega) (kk _ _ _ _ (by rw [ite_self]; exact h))
set_option maxRecDepth 100000 in
theorem s_start (hl9 : l.stackTraces = false) (C : CX p R s m args meth c cL_law 9 RL (some .boolean) G tc A 60) {b L : Nat} {xs : Nat → Int32} (hX : va_X b L xs s s.heap) (hbl : b < s.heap.size) (hbA : ¬ A b) (hL : L < 2 ^ 31) (qo qd a0 : Nat) (u : Nat → Nat → Nat) (aX : Nat → Nat) (o : Nat → Int64) (od : Nat → UInt64) {S : CS} {T : RS} (h : Rel S T) (i : Nat) (hi : i + 5 ≤ L) (hR : cells + 3 ≤ R.cells ∧ slots + 18 ≤ R.slots) (kk : ∀ (o9 : Nat → Int64) (od9 : Nat → UInt64) (S9 : CS) (T9 : RS), Rel S9 T9 → xAT p l e R s m args below meth c Q G A 9 (cells + 3) (slots + 18) (lwW tc qo qd a0 u aX o9 od9 S9 T9) [some (.ref b), some (.ref a0), some (.ref (aX 0)), some (.ref qo), some (.ref qd), some (.int (nI i)), none, none, none] 1624 []) : xAT p l e R s m args below meth c Q G A 9 cells slots (lwW tc qo qd a0 u aX o od S T) [some (.ref b), some (.ref a0), some (.ref (aX 0)), some (.ref qo), some (.ref qd), some (.int (nI i)), none, none, none] 997 [] := by
  have hI := h.2.2.2.2.2.2.2.2.2
  have r9 := r_askI h (xs (i + 1))
  refine q_start hl9 C hX hbl hbA hL qo qd a0 u aX o od S T i hi hR hI.2.1 (hI.1 ▸ hI.2.1) _ rfl r9.1 (fun hn => by obtain ⟨e9, -, k, k1, -, k3⟩ := r9.2 hn; rw [if_pos e9, k3, (hI.2.2.2.2.1 k k1).2.1]) ?_
  exact xwid (by omega) (by omega) (kk _ _ _ _ (by rw [ite_self]; exact h))
set_option maxRecDepth 100000 in
theorem s_end (hl9 : l.stackTraces = false) (C : CX p R s m args meth c cL_law 9 RL (some .boolean) G tc A 60) {b L : Nat} {xs : Nat → Int32} (hX : va_X b L xs s s.heap) (hbl : b < s.heap.size) (hbA : ¬ A b) (hL : L < 2 ^ 31) (qo qd a0 : Nat) (u : Nat → Nat → Nat) (aX : Nat → Nat) (o : Nat → Int64) (od : Nat → UInt64) {S : CS} {T : RS} (h : Rel S T) (i : Nat) (hi : i + 5 ≤ L) (hR : cells + 3 ≤ R.cells ∧ slots + 18 ≤ R.slots) (kk : ∀ (o9 : Nat → Int64) (od9 : Nat → UInt64) (S9 : CS) (T9 : RS), Rel S9 T9 → xAT p l e R s m args below meth c Q G A 9 (cells + 3) (slots + 18) (lwW tc qo qd a0 u aX o9 od9 S9 T9) [some (.ref b), some (.ref a0), some (.ref (aX 0)), some (.ref qo), some (.ref qd), some (.int (nI i)), none, none, none] 1624 []) : xAT p l e R s m args below meth c Q G A 9 cells slots (lwW tc qo qd a0 u aX o od S T) [some (.ref b), some (.ref a0), some (.ref (aX 0)), some (.ref qo), some (.ref qd), some (.int (nI i)), none, none, none] 1053 [] := by
  have hI := h.2.2.2.2.2.2.2.2.2
  have r9 := r_askI h (xs (i + 1))
  refine q_end hl9 C hX hbl hbA hL qo qd a0 u aX o od S T i hi hR hI.2.1 (hI.1 ▸ hI.2.1) _ rfl r9.1 (fun hn => by obtain ⟨e9, -, k, k1, -, k3⟩ := r9.2 hn; rw [if_pos e9, k3, (hI.2.2.2.2.1 k k1).2.2.1]) ?_
  exact xwid (by omega) (by omega) (kk _ _ _ _ (by rw [ite_self]; exact h))
set_option maxRecDepth 100000 in
theorem s_state (hl9 : l.stackTraces = false) (C : CX p R s m args meth c cL_law 9 RL (some .boolean) G tc A 60) {b L : Nat} {xs : Nat → Int32} (hX : va_X b L xs s s.heap) (hbl : b < s.heap.size) (hbA : ¬ A b) (hL : L < 2 ^ 31) (qo qd a0 : Nat) (u : Nat → Nat → Nat) (aX : Nat → Nat) (o : Nat → Int64) (od : Nat → UInt64) {S : CS} {T : RS} (h : Rel S T) (i : Nat) (hi : i + 5 ≤ L) (hR : cells + 3 ≤ R.cells ∧ slots + 18 ≤ R.slots) (kk : ∀ (o9 : Nat → Int64) (od9 : Nat → UInt64) (S9 : CS) (T9 : RS), Rel S9 T9 → xAT p l e R s m args below meth c Q G A 9 (cells + 3) (slots + 18) (lwW tc qo qd a0 u aX o9 od9 S9 T9) [some (.ref b), some (.ref a0), some (.ref (aX 0)), some (.ref qo), some (.ref qd), some (.int (nI i)), none, none, none] 1624 []) : xAT p l e R s m args below meth c Q G A 9 cells slots (lwW tc qo qd a0 u aX o od S T) [some (.ref b), some (.ref a0), some (.ref (aX 0)), some (.ref qo), some (.ref qd), some (.int (nI i)), none, none, none] 1109 [] := by
  have hI := h.2.2.2.2.2.2.2.2.2
  have r9 := r_askI h (xs (i + 1))
  refine q_state hl9 C hX hbl hbA hL qo qd a0 u aX o od S T i hi hR hI.2.1 (hI.1 ▸ hI.2.1) _ rfl r9.1 (fun hn => by obtain ⟨e9, -, k, k1, -, k3⟩ := r9.2 hn; rw [if_pos e9, k3, (hI.2.2.2.2.1 k k1).2.2.2.1]) ?_
  exact xwid (by omega) (by omega) (kk _ _ _ _ (by rw [ite_self]; exact h))
set_option maxRecDepth 100000 in
theorem s_parent (hl9 : l.stackTraces = false) (C : CX p R s m args meth c cL_law 9 RL (some .boolean) G tc A 60) {b L : Nat} {xs : Nat → Int32} (hX : va_X b L xs s s.heap) (hbl : b < s.heap.size) (hbA : ¬ A b) (hL : L < 2 ^ 31) (qo qd a0 : Nat) (u : Nat → Nat → Nat) (aX : Nat → Nat) (o : Nat → Int64) (od : Nat → UInt64) {S : CS} {T : RS} (h : Rel S T) (i : Nat) (hi : i + 5 ≤ L) (hR : cells + 3 ≤ R.cells ∧ slots + 18 ≤ R.slots) (kk : ∀ (o9 : Nat → Int64) (od9 : Nat → UInt64) (S9 : CS) (T9 : RS), Rel S9 T9 → xAT p l e R s m args below meth c Q G A 9 (cells + 3) (slots + 18) (lwW tc qo qd a0 u aX o9 od9 S9 T9) [some (.ref b), some (.ref a0), some (.ref (aX 0)), some (.ref qo), some (.ref qd), some (.int (nI i)), none, none, none] 1624 []) : xAT p l e R s m args below meth c Q G A 9 cells slots (lwW tc qo qd a0 u aX o od S T) [some (.ref b), some (.ref a0), some (.ref (aX 0)), some (.ref qo), some (.ref qd), some (.int (nI i)), none, none, none] 1165 [] := by
  have hI := h.2.2.2.2.2.2.2.2.2
  have r9 := r_askI h (xs (i + 1))
  refine q_parent hl9 C hX hbl hbA hL qo qd a0 u aX o od S T i hi hR hI.2.1 (hI.1 ▸ hI.2.1) _ rfl r9.1 (fun hn => by obtain ⟨e9, -, k, k1, -, k3⟩ := r9.2 hn; rw [if_pos e9, k3, (hI.2.2.2.2.1 k k1).2.2.2.2]) ?_
  exact xwid (by omega) (by omega) (kk _ _ _ _ (by rw [ite_self]; exact h))
set_option maxRecDepth 100000 in
theorem s_own (hl9 : l.stackTraces = false) (C : CX p R s m args meth c cL_law 9 RL (some .boolean) G tc A 60) {b L : Nat} {xs : Nat → Int32} (hX : va_X b L xs s s.heap) (hbl : b < s.heap.size) (hbA : ¬ A b) (hL : L < 2 ^ 31) (qo qd a0 : Nat) (u : Nat → Nat → Nat) (aX : Nat → Nat) (o : Nat → Int64) (od : Nat → UInt64) {S : CS} {T : RS} (h : Rel S T) (i : Nat) (hi : i + 5 ≤ L) (hR : cells + 3 ≤ R.cells ∧ slots + 18 ≤ R.slots) (kk : ∀ (o9 : Nat → Int64) (od9 : Nat → UInt64) (S9 : CS) (T9 : RS), Rel S9 T9 → xAT p l e R s m args below meth c Q G A 9 (cells + 3) (slots + 18) (lwW tc qo qd a0 u aX o9 od9 S9 T9) [some (.ref b), some (.ref a0), some (.ref (aX 0)), some (.ref qo), some (.ref qd), some (.int (nI i)), none, none, none] 1624 []) : xAT p l e R s m args below meth c Q G A 9 cells slots (lwW tc qo qd a0 u aX o od S T) [some (.ref b), some (.ref a0), some (.ref (aX 0)), some (.ref qo), some (.ref qd), some (.int (nI i)), none, none, none] 1277 [] := by
  have hI := h.2.2.2.2.2.2.2.2.2
  refine q_own hl9 C hX hbl hbA hL qo qd a0 u aX o od S T i hi hR hI.2.1 (hI.1 ▸ hI.2.1) _ rfl (r_askI h (xs (i + 1))).1 (fun hn => congrArg Int32.toInt64 (r_own h hn)) ?_
  exact xwid (by omega) (by omega) (kk _ _ _ _ (by rw [ite_self]; exact h))
set_option maxRecDepth 100000 in
theorem s_depth (hl9 : l.stackTraces = false) (C : CX p R s m args meth c cL_law 9 RL (some .boolean) G tc A 60) {b L : Nat} {xs : Nat → Int32} (hX : va_X b L xs s s.heap) (hbl : b < s.heap.size) (hbA : ¬ A b) (hL : L < 2 ^ 31) (qo qd a0 : Nat) (u : Nat → Nat → Nat) (aX : Nat → Nat) (o : Nat → Int64) (od : Nat → UInt64) {S : CS} {T : RS} (h : Rel S T) (i : Nat) (hi : i + 5 ≤ L) (hR : cells + 3 ≤ R.cells ∧ slots + 18 ≤ R.slots) (kk : ∀ (o9 : Nat → Int64) (od9 : Nat → UInt64) (S9 : CS) (T9 : RS), Rel S9 T9 → xAT p l e R s m args below meth c Q G A 9 (cells + 3) (slots + 18) (lwW tc qo qd a0 u aX o9 od9 S9 T9) [some (.ref b), some (.ref a0), some (.ref (aX 0)), some (.ref qo), some (.ref qd), some (.int (nI i)), none, none, none] 1624 []) : xAT p l e R s m args below meth c Q G A 9 cells slots (lwW tc qo qd a0 u aX o od S T) [some (.ref b), some (.ref a0), some (.ref (aX 0)), some (.ref qo), some (.ref qd), some (.int (nI i)), none, none, none] 1221 [] := by
  have hI := h.2.2.2.2.2.2.2.2.2
  refine q_depth hl9 C hX hbl hbA hL qo qd a0 u aX o od S T i hi hR hI.2.1 (hI.1 ▸ hI.2.1) (IR_pok hI) _ rfl (r_askI h (xs (i + 1))).1 (fun hn => congrArg Int32.toInt64 (r_depth h hn)) ?_
  exact xwid (by omega) (by omega) (kk _ _ _ _ (by rw [ite_self]; exact h))
set_option maxRecDepth 100000 in
theorem s_at (hl9 : l.stackTraces = false) (C : CX p R s m args meth c cL_law 9 RL (some .boolean) G tc A 60) {b L : Nat} {xs : Nat → Int32} (hX : va_X b L xs s s.heap) (hbl : b < s.heap.size) (hbA : ¬ A b) (hL : L < 2 ^ 31) (qo qd a0 : Nat) (u : Nat → Nat → Nat) (aX : Nat → Nat) (o : Nat → Int64) (od : Nat → UInt64) {S : CS} {T : RS} (h : Rel S T) (i : Nat) (hi : i + 5 ≤ L) (hR : cells + 3 ≤ R.cells ∧ slots + 18 ≤ R.slots) (kk : ∀ (o9 : Nat → Int64) (od9 : Nat → UInt64) (S9 : CS) (T9 : RS), Rel S9 T9 → xAT p l e R s m args below meth c Q G A 9 (cells + 3) (slots + 18) (lwW tc qo qd a0 u aX o9 od9 S9 T9) [some (.ref b), some (.ref a0), some (.ref (aX 0)), some (.ref qo), some (.ref qd), some (.int (nI i)), none, none, none] 1624 []) : xAT p l e R s m args below meth c Q G A 9 cells slots (lwW tc qo qd a0 u aX o od S T) [some (.ref b), some (.ref a0), some (.ref (aX 0)), some (.ref qo), some (.ref qd), some (.int (nI i)), none, none, none] 1333 [] := by
  have hI := h.2.2.2.2.2.2.2.2.2
  refine q_at hl9 C hX hbl hbA hL qo qd a0 u aX o od S T i hi hR hI.2.1 (hI.1 ▸ hI.2.1) _ rfl (r_at h (xs (i + 1))).1 (fun hn => congrArg Int32.toInt64 ((r_at h (xs (i + 1))).2 hn)) ?_
  exact xwid (by omega) (by omega) (kk _ _ _ _ (by rw [ite_self]; exact h))
set_option maxRecDepth 100000 in
theorem s_count (hl9 : l.stackTraces = false) (C : CX p R s m args meth c cL_law 9 RL (some .boolean) G tc A 60) {b L : Nat} {xs : Nat → Int32} (hX : va_X b L xs s s.heap) (hbl : b < s.heap.size) (hbA : ¬ A b) (hL : L < 2 ^ 31) (qo qd a0 : Nat) (u : Nat → Nat → Nat) (aX : Nat → Nat) (o : Nat → Int64) (od : Nat → UInt64) {S : CS} {T : RS} (h : Rel S T) (i : Nat) (hi : i + 5 ≤ L) (hR : cells + 3 ≤ R.cells ∧ slots + 18 ≤ R.slots) (kk : ∀ (o9 : Nat → Int64) (od9 : Nat → UInt64) (S9 : CS) (T9 : RS), Rel S9 T9 → xAT p l e R s m args below meth c Q G A 9 (cells + 3) (slots + 18) (lwW tc qo qd a0 u aX o9 od9 S9 T9) [some (.ref b), some (.ref a0), some (.ref (aX 0)), some (.ref qo), some (.ref qd), some (.int (nI i)), none, none, none] 1624 []) : xAT p l e R s m args below meth c Q G A 9 cells slots (lwW tc qo qd a0 u aX o od S T) [some (.ref b), some (.ref a0), some (.ref (aX 0)), some (.ref qo), some (.ref qd), some (.int (nI i)), none, none, none] 1389 [] := by
  have hI := h.2.2.2.2.2.2.2.2.2
  refine q_count hl9 C hX hbl hbA hL qo qd a0 u aX o od S T i hi hR hI.2.1 (hI.1 ▸ hI.2.1) _ rfl (r_count h (xs (i + 1)) (xs (i + 2))).1 (fun hn => congrArg Int32.toInt64 ((r_count h (xs (i + 1)) (xs (i + 2))).2 hn)) ?_
  exact xwid (by omega) (by omega) (kk _ _ _ _ (by rw [ite_self]; exact h))
set_option maxRecDepth 100000 in
theorem s_water (hl9 : l.stackTraces = false) (C : CX p R s m args meth c cL_law 9 RL (some .boolean) G tc A 60) {b L : Nat} {xs : Nat → Int32} (hX : va_X b L xs s s.heap) (hbl : b < s.heap.size) (hbA : ¬ A b) (hL : L < 2 ^ 31) (qo qd a0 : Nat) (u : Nat → Nat → Nat) (aX : Nat → Nat) (o : Nat → Int64) (od : Nat → UInt64) {S : CS} {T : RS} (h : Rel S T) (i : Nat) (hi : i + 5 ≤ L) (hR : cells + 3 ≤ R.cells ∧ slots + 18 ≤ R.slots) (kk : ∀ (o9 : Nat → Int64) (od9 : Nat → UInt64) (S9 : CS) (T9 : RS), Rel S9 T9 → xAT p l e R s m args below meth c Q G A 9 (cells + 3) (slots + 18) (lwW tc qo qd a0 u aX o9 od9 S9 T9) [some (.ref b), some (.ref a0), some (.ref (aX 0)), some (.ref qo), some (.ref qd), some (.int (nI i)), none, none, none] 1624 []) : xAT p l e R s m args below meth c Q G A 9 cells slots (lwW tc qo qd a0 u aX o od S T) [some (.ref b), some (.ref a0), some (.ref (aX 0)), some (.ref qo), some (.ref qd), some (.int (nI i)), none, none, none] 1457 [] := by
  have hI := h.2.2.2.2.2.2.2.2.2
  refine q_water hl9 C hX hbl hbA hL qo qd a0 u aX o od S T i hi hR hI.2.1 (h.2.1 ▸ h.2.2.1) (hI.1 ▸ hI.2.1) _ rfl (r_ask0 h).1 (fun hn => congrArg Int32.toInt64 (r_water h hn)) ?_
  exact xwid (by omega) (by omega) (kk _ _ _ _ (by rw [ite_self]; exact h))
set_option maxRecDepth 100000 in
theorem s_left (hl9 : l.stackTraces = false) (C : CX p R s m args meth c cL_law 9 RL (some .boolean) G tc A 60) {b L : Nat} {xs : Nat → Int32} (hX : va_X b L xs s s.heap) (hbl : b < s.heap.size) (hbA : ¬ A b) (hL : L < 2 ^ 31) (qo qd a0 : Nat) (u : Nat → Nat → Nat) (aX : Nat → Nat) (o : Nat → Int64) (od : Nat → UInt64) {S : CS} {T : RS} (h : Rel S T) (i : Nat) (hi : i + 5 ≤ L) (hR : cells + 3 ≤ R.cells ∧ slots + 18 ≤ R.slots) (kk : ∀ (o9 : Nat → Int64) (od9 : Nat → UInt64) (S9 : CS) (T9 : RS), Rel S9 T9 → xAT p l e R s m args below meth c Q G A 9 (cells + 3) (slots + 18) (lwW tc qo qd a0 u aX o9 od9 S9 T9) [some (.ref b), some (.ref a0), some (.ref (aX 0)), some (.ref qo), some (.ref qd), some (.int (nI i)), none, none, none] 1624 []) : xAT p l e R s m args below meth c Q G A 9 cells slots (lwW tc qo qd a0 u aX o od S T) [some (.ref b), some (.ref a0), some (.ref (aX 0)), some (.ref qo), some (.ref qd), some (.int (nI i)), none, none, none] 1501 [] := by
  have hI := h.2.2.2.2.2.2.2.2.2
  refine q_left hl9 C hX hbl hbA hL qo qd a0 u aX o od S T i hi hR  _ rfl (r_ask0 h).1 (fun hn => by rw [if_pos ((r_ask0 h).2 hn).1, hI.2.2.1]) ?_
  exact xwid (by omega) (by omega) (kk _ _ _ _ (by rw [ite_self]; exact h))
set_option maxRecDepth 100000 in
theorem s_share (hl9 : l.stackTraces = false) (C : CX p R s m args meth c cL_law 9 RL (some .boolean) G tc A 60) {b L : Nat} {xs : Nat → Int32} (hX : va_X b L xs s s.heap) (hbl : b < s.heap.size) (hbA : ¬ A b) (hL : L < 2 ^ 31) (qo qd a0 : Nat) (u : Nat → Nat → Nat) (aX : Nat → Nat) (o : Nat → Int64) (od : Nat → UInt64) {S : CS} {T : RS} (h : Rel S T) (i : Nat) (hi : i + 5 ≤ L) (hR : cells + 3 ≤ R.cells ∧ slots + 18 ≤ R.slots) (kk : ∀ (o9 : Nat → Int64) (od9 : Nat → UInt64) (S9 : CS) (T9 : RS), Rel S9 T9 → xAT p l e R s m args below meth c Q G A 9 (cells + 3) (slots + 18) (lwW tc qo qd a0 u aX o9 od9 S9 T9) [some (.ref b), some (.ref a0), some (.ref (aX 0)), some (.ref qo), some (.ref qd), some (.int (nI i)), none, none, none] 1624 []) : xAT p l e R s m args below meth c Q G A 9 cells slots (lwW tc qo qd a0 u aX o od S T) [some (.ref b), some (.ref a0), some (.ref (aX 0)), some (.ref qo), some (.ref qd), some (.int (nI i)), none, none, none] 1545 [] := by
  have hI := h.2.2.2.2.2.2.2.2.2
  refine q_share hl9 C hX hbl hbA hL qo qd a0 u aX o od S T i hi hR h.2.2.1 hI.2.1 (r_share h).1 (h.2.1 ▸ h.2.2.1) (hI.1 ▸ hI.2.1) (r_share h).2.1 _ rfl (r_ask0 h).1 (r_share h).2.2 ?_
  exact xwid (by omega) (by omega) (kk _ _ _ _ (by rw [ite_self]; exact h))
set_option maxRecDepth 100000 in
theorem s_size (hl9 : l.stackTraces = false) (C : CX p R s m args meth c cL_law 9 RL (some .boolean) G tc A 60) {b L : Nat} {xs : Nat → Int32} (hX : va_X b L xs s s.heap) (hbl : b < s.heap.size) (hbA : ¬ A b) (hL : L < 2 ^ 31) (qo qd a0 : Nat) (u : Nat → Nat → Nat) (aX : Nat → Nat) (o : Nat → Int64) (od : Nat → UInt64) {S : CS} {T : RS} (h : Rel S T) (i : Nat) (hi : i + 5 ≤ L) (hR : cells + 3 ≤ R.cells ∧ slots + 18 ≤ R.slots) (kk : ∀ (o9 : Nat → Int64) (od9 : Nat → UInt64) (S9 : CS) (T9 : RS), Rel S9 T9 → xAT p l e R s m args below meth c Q G A 9 (cells + 3) (slots + 18) (lwW tc qo qd a0 u aX o9 od9 S9 T9) [some (.ref b), some (.ref a0), some (.ref (aX 0)), some (.ref qo), some (.ref qd), some (.int (nI i)), none, none, none] 1624 []) : xAT p l e R s m args below meth c Q G A 9 cells slots (lwW tc qo qd a0 u aX o od S T) [some (.ref b), some (.ref a0), some (.ref (aX 0)), some (.ref qo), some (.ref qd), some (.int (nI i)), none, none, none] 384 [] := by
  have hI := h.2.2.2.2.2.2.2.2.2
  refine q_size C hX hbl hbA hL qo qd a0 u aX o od S T i hi hR  (by rw [h.2.1]) ?_
  exact xwid (by omega) (by omega) (kk _ _ _ _ h)
set_option maxRecDepth 100000 in
theorem s_setLenient (hl9 : l.stackTraces = false) (C : CX p R s m args meth c cL_law 9 RL (some .boolean) G tc A 60) {b L : Nat} {xs : Nat → Int32} (hX : va_X b L xs s s.heap) (hbl : b < s.heap.size) (hbA : ¬ A b) (hL : L < 2 ^ 31) (qo qd a0 : Nat) (u : Nat → Nat → Nat) (aX : Nat → Nat) (o : Nat → Int64) (od : Nat → UInt64) {S : CS} {T : RS} (h : Rel S T) (i : Nat) (hi : i + 5 ≤ L) (hR : cells + 3 ≤ R.cells ∧ slots + 18 ≤ R.slots) (kk : ∀ (o9 : Nat → Int64) (od9 : Nat → UInt64) (S9 : CS) (T9 : RS), Rel S9 T9 → xAT p l e R s m args below meth c Q G A 9 (cells + 3) (slots + 18) (lwW tc qo qd a0 u aX o9 od9 S9 T9) [some (.ref b), some (.ref a0), some (.ref (aX 0)), some (.ref qo), some (.ref qd), some (.int (nI i)), none, none, none] 1624 []) : xAT p l e R s m args below meth c Q G A 9 cells slots (lwW tc qo qd a0 u aX o od S T) [some (.ref b), some (.ref a0), some (.ref (aX 0)), some (.ref qo), some (.ref qd), some (.int (nI i)), none, none, none] 748 [] := by
  have hI := h.2.2.2.2.2.2.2.2.2
  refine q_setLenient C hX hbl hbA hL qo qd a0 u aX o od S T i hi hR  (r_len h true).1 ?_
  exact xwid (by omega) (by omega) (kk _ _ _ _ (r_len h (nb (xs (i + 1)))).2)
set_option maxRecDepth 100000 in
theorem s_quick (hl9 : l.stackTraces = false) (C : CX p R s m args meth c cL_law 9 RL (some .boolean) G tc A 60) {b L : Nat} {xs : Nat → Int32} (hX : va_X b L xs s s.heap) (hbl : b < s.heap.size) (hbA : ¬ A b) (hL : L < 2 ^ 31) (qo qd a0 : Nat) (u : Nat → Nat → Nat) (aX : Nat → Nat) (o : Nat → Int64) (od : Nat → UInt64) {S : CS} {T : RS} (h : Rel S T) (i : Nat) (hi : i + 5 ≤ L) (hR : cells + 3 ≤ R.cells ∧ slots + 18 ≤ R.slots) (kk : ∀ (o9 : Nat → Int64) (od9 : Nat → UInt64) (S9 : CS) (T9 : RS), Rel S9 T9 → xAT p l e R s m args below meth c Q G A 9 (cells + 3) (slots + 18) (lwW tc qo qd a0 u aX o9 od9 S9 T9) [some (.ref b), some (.ref a0), some (.ref (aX 0)), some (.ref qo), some (.ref qd), some (.int (nI i)), none, none, none] 1624 []) : xAT p l e R s m args below meth c Q G A 9 cells slots (lwW tc qo qd a0 u aX o od S T) [some (.ref b), some (.ref a0), some (.ref (aX 0)), some (.ref qo), some (.ref qd), some (.int (nI i)), none, none, none] 789 [] := by
  have hI := h.2.2.2.2.2.2.2.2.2
  refine q_quick C hX hbl hbA hL qo qd a0 u aX o od S T i hi hR h.2.2.1 h.2.2.2.2.2.2.1.1 (h.2.1 ▸ h.2.2.1) (r_quick h).1 ?_
  exact xwid (by omega) (by omega) (kk _ _ _ _ (r_quick h).2)
set_option maxRecDepth 100000 in
theorem s_best (hl9 : l.stackTraces = false) (C : CX p R s m args meth c cL_law 9 RL (some .boolean) G tc A 60) {b L : Nat} {xs : Nat → Int32} (hX : va_X b L xs s s.heap) (hbl : b < s.heap.size) (hbA : ¬ A b) (hL : L < 2 ^ 31) (qo qd a0 : Nat) (u : Nat → Nat → Nat) (aX : Nat → Nat) (o : Nat → Int64) (od : Nat → UInt64) {S : CS} {T : RS} (h : Rel S T) (i : Nat) (hi : i + 5 ≤ L) (hR : cells + 3 ≤ R.cells ∧ slots + 18 ≤ R.slots) (kk : ∀ (o9 : Nat → Int64) (od9 : Nat → UInt64) (S9 : CS) (T9 : RS), Rel S9 T9 → xAT p l e R s m args below meth c Q G A 9 (cells + 3) (slots + 18) (lwW tc qo qd a0 u aX o9 od9 S9 T9) [some (.ref b), some (.ref a0), some (.ref (aX 0)), some (.ref qo), some (.ref qd), some (.int (nI i)), none, none, none] 1624 []) : xAT p l e R s m args below meth c Q G A 9 cells slots (lwW tc qo qd a0 u aX o od S T) [some (.ref b), some (.ref a0), some (.ref (aX 0)), some (.ref qo), some (.ref qd), some (.int (nI i)), none, none, none] 802 [] := by
  have hI := h.2.2.2.2.2.2.2.2.2
  refine q_best C hX hbl hbA hL qo qd a0 u aX o od S T i hi hR h.2.2.1 (r_mm h).2 h.2.2.2.2.2.2.1.1 (h.2.1 ▸ h.2.2.1) (r_best h).1 ?_
  exact xwid (by omega) (by omega) (kk _ _ _ _ (r_best h).2)
set_option maxRecDepth 100000 in
theorem s_hasReading (hl9 : l.stackTraces = false) (C : CX p R s m args meth c cL_law 9 RL (some .boolean) G tc A 60) {b L : Nat} {xs : Nat → Int32} (hX : va_X b L xs s s.heap) (hbl : b < s.heap.size) (hbA : ¬ A b) (hL : L < 2 ^ 31) (qo qd a0 : Nat) (u : Nat → Nat → Nat) (aX : Nat → Nat) (o : Nat → Int64) (od : Nat → UInt64) {S : CS} {T : RS} (h : Rel S T) (i : Nat) (hi : i + 5 ≤ L) (hR : cells + 3 ≤ R.cells ∧ slots + 18 ≤ R.slots) (kk : ∀ (o9 : Nat → Int64) (od9 : Nat → UInt64) (S9 : CS) (T9 : RS), Rel S9 T9 → xAT p l e R s m args below meth c Q G A 9 (cells + 3) (slots + 18) (lwW tc qo qd a0 u aX o9 od9 S9 T9) [some (.ref b), some (.ref a0), some (.ref (aX 0)), some (.ref qo), some (.ref qd), some (.int (nI i)), none, none, none] 1624 []) : xAT p l e R s m args below meth c Q G A 9 cells slots (lwW tc qo qd a0 u aX o od S T) [some (.ref b), some (.ref a0), some (.ref (aX 0)), some (.ref qo), some (.ref qd), some (.int (nI i)), none, none, none] 815 [] := by
  have hI := h.2.2.2.2.2.2.2.2.2
  refine q_hasReading C hX hbl hbA hL qo qd a0 u aX o od S T i hi hR  (by rw [hI.2.2.2.1]) ?_
  exact xwid (by omega) (by omega) (kk _ _ _ _ h)
set_option maxRecDepth 100000 in
theorem s_markCount (hl9 : l.stackTraces = false) (C : CX p R s m args meth c cL_law 9 RL (some .boolean) G tc A 60) {b L : Nat} {xs : Nat → Int32} (hX : va_X b L xs s s.heap) (hbl : b < s.heap.size) (hbA : ¬ A b) (hL : L < 2 ^ 31) (qo qd a0 : Nat) (u : Nat → Nat → Nat) (aX : Nat → Nat) (o : Nat → Int64) (od : Nat → UInt64) {S : CS} {T : RS} (h : Rel S T) (i : Nat) (hi : i + 5 ≤ L) (hR : cells + 3 ≤ R.cells ∧ slots + 18 ≤ R.slots) (kk : ∀ (o9 : Nat → Int64) (od9 : Nat → UInt64) (S9 : CS) (T9 : RS), Rel S9 T9 → xAT p l e R s m args below meth c Q G A 9 (cells + 3) (slots + 18) (lwW tc qo qd a0 u aX o9 od9 S9 T9) [some (.ref b), some (.ref a0), some (.ref (aX 0)), some (.ref qo), some (.ref qd), some (.int (nI i)), none, none, none] 1624 []) : xAT p l e R s m args below meth c Q G A 9 cells slots (lwW tc qo qd a0 u aX o od S T) [some (.ref b), some (.ref a0), some (.ref (aX 0)), some (.ref qo), some (.ref qd), some (.int (nI i)), none, none, none] 828 [] := by
  have hI := h.2.2.2.2.2.2.2.2.2
  refine q_markCount C hX hbl hbA hL qo qd a0 u aX o od S T i hi hR h.2.2.1 h.2.2.2.2.2.2.1.1 (h.2.1 ▸ h.2.2.1) (by rw [(r_mm h).1]) ?_
  exact xwid (by omega) (by omega) (kk _ _ _ _ h)
set_option maxRecDepth 100000 in
theorem s_digest (hl9 : l.stackTraces = false) (C : CX p R s m args meth c cL_law 9 RL (some .boolean) G tc A 60) {b L : Nat} {xs : Nat → Int32} (hX : va_X b L xs s s.heap) (hbl : b < s.heap.size) (hbA : ¬ A b) (hL : L < 2 ^ 31) (qo qd a0 : Nat) (u : Nat → Nat → Nat) (aX : Nat → Nat) (o : Nat → Int64) (od : Nat → UInt64) {S : CS} {T : RS} (h : Rel S T) (i : Nat) (hi : i + 5 ≤ L) (hR : cells + 3 ≤ R.cells ∧ slots + 18 ≤ R.slots) (kk : ∀ (o9 : Nat → Int64) (od9 : Nat → UInt64) (S9 : CS) (T9 : RS), Rel S9 T9 → xAT p l e R s m args below meth c Q G A 9 (cells + 3) (slots + 18) (lwW tc qo qd a0 u aX o9 od9 S9 T9) [some (.ref b), some (.ref a0), some (.ref (aX 0)), some (.ref qo), some (.ref qd), some (.int (nI i)), none, none, none] 1624 []) : xAT p l e R s m args below meth c Q G A 9 cells slots (lwW tc qo qd a0 u aX o od S T) [some (.ref b), some (.ref a0), some (.ref (aX 0)), some (.ref qo), some (.ref qd), some (.int (nI i)), none, none, none] 1610 [] := by
  have hI := h.2.2.2.2.2.2.2.2.2
  refine q_digest C hX hbl hbA hL qo qd a0 u aX o od S T i hi hR h.2.2.1 hI.2.1 h.2.2.2.2.2.2.1.1 (h.2.1 ▸ h.2.2.1) (hI.1 ▸ hI.2.1) (r_digest h) ?_
  exact xwid (by omega) (by omega) (kk _ _ _ _ h)
set_option maxRecDepth 100000 in
set_option maxHeartbeats 4000000 in
theorem lw_step (hl9 : l.stackTraces = false) (C : CX p R s m args meth c cL_law 9 RL (some .boolean) G tc A 60) {b L : Nat} {xs : Nat → Int32} (hX : va_X b L xs s s.heap) (hbl : b < s.heap.size) (hbA : ¬ A b) (hL : L < 2 ^ 31) (qo qd a0 : Nat) (u : Nat → Nat → Nat) (aX : Nat → Nat) (o : Nat → Int64) (od : Nat → UInt64) {S : CS} {T : RS} (h : Rel S T) (i : Nat) (hi : i + 5 ≤ L) (hR : cells + 3 ≤ R.cells ∧ slots + 18 ≤ R.slots) (kk : ∀ (o9 : Nat → Int64) (od9 : Nat → UInt64) (S9 : CS) (T9 : RS), Rel S9 T9 → xAT p l e R s m args below meth c Q G A 9 (cells + 3) (slots + 18) (lwW tc qo qd a0 u aX o9 od9 S9 T9) [some (.ref b), some (.ref a0), some (.ref (aX 0)), some (.ref qo), some (.ref qd), some (.int (nI (i + 5))), none, none, none] 28 []) : xAT p l e R s m args below meth c Q G A 9 cells slots (lwW tc qo qd a0 u aX o od S T) [some (.ref b), some (.ref a0), some (.ref (aX 0)), some (.ref qo), some (.ref qd), some (.int (nI i)), none, none, none] 37 [] := by
  have k2 : ∀ (o9 : Nat → Int64) (od9 : Nat → UInt64) (S9 : CS) (T9 : RS), Rel S9 T9 → xAT p l e R s m args below meth c Q G A 9 (cells + 3) (slots + 18) (lwW tc qo qd a0 u aX o9 od9 S9 T9) [some (.ref b), some (.ref a0), some (.ref (aX 0)), some (.ref qo), some (.ref qd), some (.int (nI i)), none, none, none] 1624 [] := fun o9 od9 S9 T9 h9 => by
    refine xiinc_5 C (nI (i + 5)) dL_law_1624 (nI_add i 5) rfl (by decide) ?_
    exact xgoto C (tgt := 28) dL_law_1627 (by decide) (kk o9 od9 S9 T9 h9)
  refine xaload_0 C dL_law_37 ?_
  refine xiload_5 C dL_law_38 ?_
  refine xsld C hX hbl hbA i dL_law_40 rfl (by omega) hL ?_
  refine xbipush C 31 dL_law_41 (by decide) ?_
  refine xiand C dL_law_43 ?_
  obtain ⟨j, hj, ej⟩ := pk_andE (xs i) (m := 31) 5 (by decide)
  rw [ej]
  have hj : j < 32 := hj
  rcases (by omega : j = 0 ∨ j = 1 ∨ j = 2 ∨ j = 3 ∨ j = 4 ∨ j = 5 ∨ j = 6 ∨ j = 7 ∨ j = 8 ∨ j = 9 ∨ j = 10 ∨ j = 11 ∨ j = 12 ∨ j = 13 ∨ j = 14 ∨ j = 15 ∨ j = 16 ∨ j = 17 ∨ j = 18 ∨ j = 19 ∨ j = 20 ∨ j = 21 ∨ j = 22 ∨ j = 23 ∨ j = 24 ∨ j = 25 ∨ j = 26 ∨ j = 27 ∨ 28 ≤ j) with rfl | rfl | rfl | rfl | rfl | rfl | rfl | rfl | rfl | rfl | rfl | rfl | rfl | rfl | rfl | rfl | rfl | rfl | rfl | rfl | rfl | rfl | rfl | rfl | rfl | rfl | rfl | rfl | hj28
  · exact xtabIn (off := 128) (tgt := 172) C dL_law_44 (by decide) (by decide) (by decide) (by decide) (s_feed hl9 C hX hbl hbA hL qo qd a0 u aX o od h i hi hR k2)
  · exact xtabIn (off := 216) (tgt := 260) C dL_law_44 (by decide) (by decide) (by decide) (by decide) (s_cut hl9 C hX hbl hbA hL qo qd a0 u aX o od h i hi hR k2)
  · exact xtabIn (off := 272) (tgt := 316) C dL_law_44 (by decide) (by decide) (by decide) (by decide) (s_set hl9 C hX hbl hbA hL qo qd a0 u aX o od h i hi hR k2)
  · exact xtabIn (off := 340) (tgt := 384) C dL_law_44 (by decide) (by decide) (by decide) (by decide) (s_size hl9 C hX hbl hbA hL qo qd a0 u aX o od h i hi hR k2)
  · exact xtabIn (off := 353) (tgt := 397) C dL_law_44 (by decide) (by decide) (by decide) (by decide) (s_byteAt hl9 C hX hbl hbA hL qo qd a0 u aX o od h i hi hR k2)
  · exact xtabIn (off := 409) (tgt := 453) C dL_law_44 (by decide) (by decide) (by decide) (by decide) (s_setEscape hl9 C hX hbl hbA hL qo qd a0 u aX o od h i hi hR k2)
  · exact xtabIn (off := 465) (tgt := 509) C dL_law_44 (by decide) (by decide) (by decide) (by decide) (s_setWord hl9 C hX hbl hbA hL qo qd a0 u aX o od h i hi hR k2)
  · exact xtabIn (off := 580) (tgt := 624) C dL_law_44 (by decide) (by decide) (by decide) (by decide) (s_setKind hl9 C hX hbl hbA hL qo qd a0 u aX o od h i hi hR k2)
  · exact xtabIn (off := 704) (tgt := 748) C dL_law_44 (by decide) (by decide) (by decide) (by decide) (s_setLenient hl9 C hX hbl hbA hL qo qd a0 u aX o od h i hi hR k2)
  · exact xtabIn (off := 745) (tgt := 789) C dL_law_44 (by decide) (by decide) (by decide) (by decide) (s_quick hl9 C hX hbl hbA hL qo qd a0 u aX o od h i hi hR k2)
  · exact xtabIn (off := 758) (tgt := 802) C dL_law_44 (by decide) (by decide) (by decide) (by decide) (s_best hl9 C hX hbl hbA hL qo qd a0 u aX o od h i hi hR k2)
  · exact xtabIn (off := 771) (tgt := 815) C dL_law_44 (by decide) (by decide) (by decide) (by decide) (s_hasReading hl9 C hX hbl hbA hL qo qd a0 u aX o od h i hi hR k2)
  · exact xtabIn (off := 784) (tgt := 828) C dL_law_44 (by decide) (by decide) (by decide) (by decide) (s_markCount hl9 C hX hbl hbA hL qo qd a0 u aX o od h i hi hR k2)
  · exact xtabIn (off := 797) (tgt := 841) C dL_law_44 (by decide) (by decide) (by decide) (by decide) (s_mark hl9 C hX hbl hbA hL qo qd a0 u aX o od h i hi hR k2)
  · exact xtabIn (off := 853) (tgt := 897) C dL_law_44 (by decide) (by decide) (by decide) (by decide) (s_islandCount hl9 C hX hbl hbA hL qo qd a0 u aX o od h i hi hR k2)
  · exact xtabIn (off := 897) (tgt := 941) C dL_law_44 (by decide) (by decide) (by decide) (by decide) (s_kind hl9 C hX hbl hbA hL qo qd a0 u aX o od h i hi hR k2)
  · exact xtabIn (off := 953) (tgt := 997) C dL_law_44 (by decide) (by decide) (by decide) (by decide) (s_start hl9 C hX hbl hbA hL qo qd a0 u aX o od h i hi hR k2)
  · exact xtabIn (off := 1009) (tgt := 1053) C dL_law_44 (by decide) (by decide) (by decide) (by decide) (s_end hl9 C hX hbl hbA hL qo qd a0 u aX o od h i hi hR k2)
  · exact xtabIn (off := 1065) (tgt := 1109) C dL_law_44 (by decide) (by decide) (by decide) (by decide) (s_state hl9 C hX hbl hbA hL qo qd a0 u aX o od h i hi hR k2)
  · exact xtabIn (off := 1121) (tgt := 1165) C dL_law_44 (by decide) (by decide) (by decide) (by decide) (s_parent hl9 C hX hbl hbA hL qo qd a0 u aX o od h i hi hR k2)
  · exact xtabIn (off := 1177) (tgt := 1221) C dL_law_44 (by decide) (by decide) (by decide) (by decide) (s_depth hl9 C hX hbl hbA hL qo qd a0 u aX o od h i hi hR k2)
  · exact xtabIn (off := 1233) (tgt := 1277) C dL_law_44 (by decide) (by decide) (by decide) (by decide) (s_own hl9 C hX hbl hbA hL qo qd a0 u aX o od h i hi hR k2)
  · exact xtabIn (off := 1289) (tgt := 1333) C dL_law_44 (by decide) (by decide) (by decide) (by decide) (s_at hl9 C hX hbl hbA hL qo qd a0 u aX o od h i hi hR k2)
  · exact xtabIn (off := 1345) (tgt := 1389) C dL_law_44 (by decide) (by decide) (by decide) (by decide) (s_count hl9 C hX hbl hbA hL qo qd a0 u aX o od h i hi hR k2)
  · exact xtabIn (off := 1413) (tgt := 1457) C dL_law_44 (by decide) (by decide) (by decide) (by decide) (s_water hl9 C hX hbl hbA hL qo qd a0 u aX o od h i hi hR k2)
  · exact xtabIn (off := 1457) (tgt := 1501) C dL_law_44 (by decide) (by decide) (by decide) (by decide) (s_left hl9 C hX hbl hbA hL qo qd a0 u aX o od h i hi hR k2)
  · exact xtabIn (off := 1501) (tgt := 1545) C dL_law_44 (by decide) (by decide) (by decide) (by decide) (s_share hl9 C hX hbl hbA hL qo qd a0 u aX o od h i hi hR k2)
  · exact xtabIn (off := 1566) (tgt := 1610) C dL_law_44 (by decide) (by decide) (by decide) (by decide) (s_digest hl9 C hX hbl hbA hL qo qd a0 u aX o od h i hi hR k2)
  · refine xtabOut (tgt := 1624) C dL_law_44 (Or.inr (by rw [nI_toInt (by omega)]; omega)) (by decide) ?_
    exact xwid (by omega) (by omega) (k2 o od S T h)
set_option maxRecDepth 100000 in
set_option maxHeartbeats 4000000 in
theorem lw_loop (hl9 : l.stackTraces = false) (C : CX p R s m args meth c cL_law 9 RL (some .boolean) G tc A 60) {b L : Nat} {xs : Nat → Int32} (hX : va_X b L xs s s.heap) (hbl : b < s.heap.size) (hbA : ¬ A b) (hL : L < 2 ^ 30) (qo qd a0 : Nat) (u : Nat → Nat → Nat) (aX : Nat → Nat) {kc ks : Nat} (hK : kc ≤ R.cells ∧ ks ≤ R.slots)
    (kend : ∀ (ws : va_W) (lv : List (Option Value)), xAT p l e R s m args below meth c Q G A 9 kc ks ws lv 1631 [.int 1]) :
    ∀ (f i cells slots : Nat) (o : Nat → Int64) (od : Nat → UInt64) (S : CS) (T : RS), Rel S T → i < 2 ^ 30 → L < i + 5 * f + 5 → cells + 3 * f ≤ kc → slots + 18 * f ≤ ks → xAT p l e R s m args below meth c Q G A 9 cells slots (lwW tc qo qd a0 u aX o od S T) [some (.ref b), some (.ref a0), some (.ref (aX 0)), some (.ref qo), some (.ref qd), some (.int (nI i)), none, none, none] 28 []
  | f, i, cells, slots, o, od, S, T, h, hi, hf, h1, h2 => by
    refine xiload_5 C dL_law_28 ?_
    refine xaload_0 C dL_law_30 ?_
    refine xslen C hX hbl hbA dL_law_31 ?_
    refine xiconst C (5) dL_law_32 (by decide) ?_
    refine xisub C dL_law_33 ?_
    have hlt : nI L - 5 < nI i ↔ L < i + 5 := by
      rw [Int32.lt_iff_toInt_lt, show (5 : Int32) = nI 5 from rfl, pk_sub_toInt hL (by omega), nI_toInt (by omega)]
      omega
    refine xicmp_gt C (tgt := 1630) dL_law_34 (by decide) (fun _ => ?_) (fun hc => ?_)
    · refine xiconst C (1) dL_law_1630 (by decide) ?_
      exact xwid (by omega) (by omega) (kend _ _)
    · have hc : i + 5 ≤ L := by
        rcases Nat.lt_or_ge L (i + 5) with z | z
        · exact absurd (hlt.mpr z) hc
        · exact z
      match f, hf, h1, h2 with
      | 0, hf, _, _ => exact absurd hf (by omega)
      | f + 1, hf, h1, h2 =>
        refine lw_step hl9 C hX hbl hbA (by omega) qo qd a0 u aX o od h i hc ⟨by omega, by omega⟩ (fun o9 od9 S9 T9 h9 => ?_)
        exact lw_loop hl9 C hX hbl hbA hL qo qd a0 u aX hK kend f (i + 5) (cells + 3) (slots + 18) o9 od9 S9 T9 h9 (by omega) (by omega) (by omega) (by omega)
end XLP
