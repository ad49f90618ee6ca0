/-! what marks and best readings are, as the class makes them -/
def hasM (ko kc : Nat → Int32) (w : Int32) : Bool := !decide ((kw ko kc ko w ||| kw ko kc kc w) = 0)
/-- the longest word at place i, of at most q bytes; 0: none -/
def mlG (b : Nat → Int32) (n : Nat) (ec : Int32) (ko kc : Nat → Int32) (i : Nat) : Nat → Nat
  | 0 => 0
  | q + 1 => if hasM ko kc (wAt b n ec i (q + 1)) = true then q + 1 else mlG b n ec ko kc i q
def mLen (b : Nat → Int32) (n : Nat) (ec : Int32) (ko kc : Nat → Int32) (i : Nat) : Nat := mlG b n ec ko kc i 3
theorem mlG_le {b : Nat → Int32} {n : Nat} {ec : Int32} {ko kc : Nat → Int32} {i : Nat} : ∀ q, mlG b n ec ko kc i q ≤ q
  | 0 => Nat.le_refl 0
  | q + 1 => by
    rw [mlG]
    split
    · exact Nat.le_refl _
    · exact Nat.le_succ_of_le (mlG_le q)
theorem mLen_le {b : Nat → Int32} {n : Nat} {ec : Int32} {ko kc : Nat → Int32} {i : Nat} : mLen b n ec ko kc i ≤ 3 := mlG_le 3
def fmS (b : Nat → Int32) (n : Nat) (ec : Int32) (ko kc : Nat → Int32) (i : Nat) (q : MS) : MS := if mLen b n ec ko kc i = 0 then q else (upd q.1 q.2.2.2.2 (nI i), upd q.2.1 q.2.2.2.2 (nI (i + mLen b n ec ko kc i)), upd q.2.2.1 q.2.2.2.2 (kw ko kc ko (wAt b n ec i (mLen b n ec ko kc i))), upd q.2.2.2.1 q.2.2.2.2 (kw ko kc kc (wAt b n ec i (mLen b n ec ko kc i))), q.2.2.2.2 + 1)
def mGo (b : Nat → Int32) (n : Nat) (ec : Int32) (ko kc : Nat → Int32) (i : Nat) : Nat := if mLen b n ec ko kc i = 0 then 1 else mLen b n ec ko kc i
def fmG (b : Nat → Int32) (n : Nat) (ec : Int32) (ko kc : Nat → Int32) : Nat → Nat → Nat → MS → MS
  | 0, _, _, q => q
  | f + 1, i, nx, q => if i = nx then (if b i = ec then fmG b n ec ko kc f (i + 1) (i + 2) q else fmG b n ec ko kc f (i + 1) (i + mGo b n ec ko kc i) (fmS b n ec ko kc i q)) else fmG b n ec ko kc f (i + 1) nx q
def wMs (tc : Nat → ClassId) (a : Nat → Nat) (q : MS) : va_W := wM tc a q.1 q.2.1 q.2.2.1 q.2.2.2.1 q.2.2.2.2
/-- the table of the best reading: one long a stretch, a byte a holder -/
def fN (bs : Nat → Int64) (f t h : Nat) : Nat := (bs (f * 49 + t)).toBitVec.toNat / 2 ^ (8 * h) % 256
theorem fN_lt (bs : Nat → Int64) (f t h : Nat) : fN bs f t h < 256 := Nat.mod_lt _ (by decide)
theorem fN_get (x : Int64) {h : Nat} (hh : h ≤ 6) : (x.toUInt64 >>> ((nI (8 * h)).toInt64.toUInt64 &&& Int64.toUInt64 63)).toInt64.toInt32 &&& 255 = nI (x.toBitVec.toNat / 2 ^ (8 * h) % 256) := by
  obtain ⟨n, hn, rfl⟩ := wb_of x
  rw [wb_shr hn (by omega), lN_i, pk_and _ 8 (by decide), wb_tn hn]
  congr 1
  show (BitVec.ofNat 32 _).toNat % 2 ^ 8 = _
  rw [BitVec.toNat_ofNat]
  omega
def kp (bs : Nat → Int64) (f t h v : Nat) : Nat → Int64 := vp_updL bs (f * 49 + t) ((bs (f * 49 + t) &&& (((255 : Int64) <<< ((nI (8 * h)).toInt64 &&& 63)) ^^^ (-1))) ||| ((nI v).toInt64 <<< ((nI (8 * h)).toInt64 &&& 63)))
def mn (x y : Nat) : Nat := if y < x then y else x
theorem nI_mn {x y : Nat} (hx : x < 2 ^ 31) (hy : y < 2 ^ 31) : (if nI y < nI x then nI y else nI x) = nI (mn x y) := by
  rw [mn]
  by_cases h : y < x
  · rw [if_pos ((nI_ltI hy hx).mpr h), if_pos h]
  · rw [if_neg (fun q => h ((nI_ltI hy hx).mp q)), if_neg h]
theorem mn_le {x y : Nat} : mn x y ≤ x := by rw [mn]; split <;> omega
def fIn (kr : Int32) (bs : Nat → Int64) (f p k : Nat) : Nat := if hk kr (nI k) = true then 0 else fN bs (f + 1) p k
theorem fIn_lt (kr : Int32) (bs : Nat → Int64) (f p k : Nat) : fIn kr bs f p k < 256 := by
  rw [fIn]
  split
  · decide
  · exact fN_lt _ _ _ _
def fBtG (kr : Int32) (bs : Nat → Int64) (f p : Nat) (pd : Int32) : Nat → Nat → Nat → Nat
  | 0, _, z => z
  | n + 1, k, z => fBtG kr bs f p pd n (k + 1) (if hk pd (nI k) = true then mn z (fIn kr bs f p k) else z)
theorem fBtG_le {kr : Int32} {bs : Nat → Int64} {f p : Nat} {pd : Int32} : ∀ n k z, fBtG kr bs f p pd n k z ≤ z
  | 0, _, _ => Nat.le_refl _
  | n + 1, k, z => by
    rw [fBtG]
    refine Nat.le_trans (fBtG_le n (k + 1) _) ?_
    split
    · exact mn_le
    · exact Nat.le_refl _
def fBt (kr : Int32) (bs : Nat → Int64) (f p : Nat) (pd : Int32) : Nat := fBtG kr bs f p pd 6 0 48
theorem fBt_le {kr : Int32} {bs : Nat → Int64} {f p : Nat} {pd : Int32} : fBt kr bs f p pd ≤ 48 := fBtG_le 6 0 48
def fIoG (kr : Int32) (mc : Nat → Int32) (bs : Nat → Int64) (f t h : Nat) (od : Int32) : Nat → Nat → Nat → Nat
  | 0, _, z => z
  | n + 1, p, z => if z = 0 then z else fIoG kr mc bs f t h od n (p + 1) (if (od &&& mc p) = 0 then z else mn z (fN bs (p + 1) t h + fBt kr bs f p (od &&& mc p)))
theorem fIoG_le {kr : Int32} {mc : Nat → Int32} {bs : Nat → Int64} {f t h : Nat} {od : Int32} : ∀ n p z, fIoG kr mc bs f t h od n p z ≤ z
  | 0, _, _ => Nat.le_refl _
  | n + 1, p, z => by
    rw [fIoG]
    split
    · exact Nat.le_refl _
    · refine Nat.le_trans (fIoG_le n (p + 1) _) ?_
      split
      · exact Nat.le_refl _
      · exact mn_le
def fIo (kr : Int32) (mc : Nat → Int32) (bs : Nat → Int64) (f t h : Nat) (od : Int32) : Nat := fIoG kr mc bs f t h od (t - (f + 1)) (f + 1) 48
def fsV (kr : Int32) (mo mc : Nat → Int32) (t h : Nat) (al : Int32) (bs : Nat → Int64) (n : Nat) : Nat := if (mo n &&& al) = 0 then 1 + fN bs (n + 1) t h else mn (1 + fN bs (n + 1) t h) (fIo kr mc bs n t h (mo n &&& al))
def fsTG (kr : Int32) (mo mc : Nat → Int32) (t h : Nat) (al : Int32) : Nat → (Nat → Int64) → Nat → Int64
  | 0, bs => bs
  | n + 1, bs => fsTG kr mo mc t h al n (kp bs n t h (fsV kr mo mc t h al bs n))
def fsT (kr : Int32) (mo mc : Nat → Int32) (t h : Nat) (al : Int32) (bs : Nat → Int64) : Nat → Int64 := fsTG kr mo mc t h al t (kp bs t t h 0)
def fsKG (ki : Nat → Int32) (kr ku : Int32) (mo mc : Nat → Int32) (hd : Int32) (t : Nat) : Nat → Nat → (Nat → Int64) → Nat → Int64
  | 0, _, bs => bs
  | n + 1, k, bs => fsKG ki kr ku mo mc hd t n (k + 1) (if hk hd (nI k) = true then fsT kr mo mc t k (alw ki kr ku (nI k)) bs else bs)
def fsAG (ki : Nat → Int32) (kr ku : Int32) (mo mc : Nat → Int32) : Nat → Nat → (Nat → Int64) → Nat → Int64
  | 0, _, bs => bs
  | n + 1, t, bs => fsAG ki kr ku mo mc n (t + 1) (fsKG ki kr ku mo mc (mc t &&& (kr ^^^ (-1))) t 6 0 bs)
def fsAll (ki : Nat → Int32) (kr ku : Int32) (mo mc : Nat → Int32) (mm : Nat) (bs : Nat → Int64) : Nat → Int64 := fsT kr mo mc mm 6 (alw ki kr ku (nI 6)) (fsAG ki kr ku mo mc mm 0 bs)
def oI : Option Nat → Int32
  | none => -1
  | some p => nI p
def bpG (kr : Int32) (mc : Nat → Int32) (bs : Nat → Int64) (f t k h : Nat) : Nat → Nat → Option Nat
  | 0, _ => none
  | n + 1, p => if (hk (mc p) (nI k) && decide (fIn kr bs f p k + fN bs (p + 1) t h = fN bs f t h)) = true then some p else bpG kr mc bs f t k h n (p + 1)
def bp (kr : Int32) (mc : Nat → Int32) (bs : Nat → Int64) (f t k h : Nat) : Option Nat := bpG kr mc bs f t k h (t - (f + 1)) (f + 1)
