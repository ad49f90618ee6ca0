/-! what marks and best readings are, as the class makes them -/
def hasM (ko kc : Nat → Int32) (w : Int32) : Bool := !decide ((kw ko kc ko w ||| kw ko kc kc w) = 0)
/-- the longest word at place i, of at most q bytes; 0: none -/
def mlG (b : Nat → Int32) (n : Nat) (ec : Int32) (ko kc : Nat → Int32) (i : Nat) : Nat → Nat
  | 0 => 0
  | q + 1 => if hasM ko kc (wAt b n ec i (q + 1)) = true then q + 1 else mlG b n ec ko kc i q
def mLen (b : Nat → Int32) (n : Nat) (ec : Int32) (ko kc : Nat → Int32) (i : Nat) : Nat := mlG b n ec ko kc i 3
theorem mlG_le {b : Nat → Int32} {n : Nat} {ec : Int32} {ko kc : Nat → Int32} {i : Nat} : ∀ q, mlG b n ec ko kc i q ≤ q
  | 0 => Nat.le_refl 0
  | q + 1 => by
    rw [mlG]
    split
    · exact Nat.le_refl _
    · exact Nat.le_succ_of_le (mlG_le q)
theorem mLen_le {b : Nat → Int32} {n : Nat} {ec : Int32} {ko kc : Nat → Int32} {i : Nat} : mLen b n ec ko kc i ≤ 3 := mlG_le 3
def fmS (b : Nat → Int32) (n : Nat) (ec : Int32) (ko kc : Nat → Int32) (i : Nat) (q : MS) : MS := if mLen b n ec ko kc i = 0 then q else (upd q.1 q.2.2.2.2 (nI i), upd q.2.1 q.2.2.2.2 (nI (i + mLen b n ec ko kc i)), upd q.2.2.1 q.2.2.2.2 (kw ko kc ko (wAt b n ec i (mLen b n ec ko kc i))), upd q.2.2.2.1 q.2.2.2.2 (kw ko kc kc (wAt b n ec i (mLen b n ec ko kc i))), q.2.2.2.2 + 1)
def mGo (b : Nat → Int32) (n : Nat) (ec : Int32) (ko kc : Nat → Int32) (i : Nat) : Nat := if mLen b n ec ko kc i = 0 then 1 else mLen b n ec ko kc i
def fmG (b : Nat → Int32) (n : Nat) (ec : Int32) (ko kc : Nat → Int32) : Nat → Nat → Nat → MS → MS
  | 0, _, _, q => q
  | f + 1, i, nx, q => if i = nx then (if b i = ec then fmG b n ec ko kc f (i + 1) (i + 2) q else fmG b n ec ko kc f (i + 1) (i + mGo b n ec ko kc i) (fmS b n ec ko kc i q)) else fmG b n ec ko kc f (i + 1) nx q
def wMs (tc : Nat → ClassId) (a : Nat → Nat) (q : MS) : va_W := wM tc a q.1 q.2.1 q.2.2.1 q.2.2.2.1 q.2.2.2.2
