theorem sameD2 {A : Nat → Prop} {w w' : va_W} (hD : va_D A w) (h : w.map Prod.fst = w'.map Prod.fst) : va_D A w' := sameD h hD
/-! words of sets of valuations -/
def vbL (bit word : Nat) : Int64 := if bit < 6 then NB bit else if word.testBit (bit - 6) = true then -1 else 0
def jTL (k : Nat) (x y : Int64) : Int64 := if k = 3 ∨ k = 5 then x &&& y else if k = 4 ∨ k = 6 then x ||| y else (x ^^^ (-1)) ||| y
def jFL (k : Nat) (x z w : Int64) : Int64 := if k = 4 ∨ k = 5 then z &&& w else if k = 3 ∨ k = 6 then z ||| w else x &&& w
def pkL (x y : Int64) (v : Nat) : Int64 := (if told v true = true then x else x ^^^ (-1)) &&& (if told v false = true then y else y ^^^ (-1))
/-- a row written word by word -/
def pt (f : Nat → Int64) (row : Nat) (g : Nat → Int64) : Nat → (Nat → Int64)
  | 0 => f
  | w + 1 => vp_updL (pt f row g w) (row + w) (g w)
theorem pt_out {f g : Nat → Int64} {row j : Nat} : ∀ {w : Nat}, (j < row ∨ row + w ≤ j) → pt f row g w j = f j
  | 0, _ => rfl
  | w + 1, h => by
    show vp_updL (pt f row g w) (row + w) (g w) j = f j
    rw [pk_uLn (by omega)]
    exact pt_out (by omega)
theorem pt_in {f g : Nat → Int64} {row k : Nat} : ∀ {w : Nat}, k < w → pt f row g w (row + k) = g k
  | 0, h => absurd h (Nat.not_lt_zero k)
  | w + 1, h => by
    show vp_updL (pt f row g w) (row + w) (g w) (row + k) = g k
    rcases Nat.lt_or_ge k w with q | q
    · rw [pk_uLn (by omega)]
      exact pt_in q
    · have e : k = w := by omega
      subst e
      exact pk_uLs
/-- the words of a logic: the triple t counts if its three digits are values of the logic -/
def tcB (lg t : Nat) : Bool := lg.testBit (t / 16) && lg.testBit (t / 4 % 4) && lg.testBit (t % 4)
def tpL (lg : Nat) : Nat → Int64
  | 0 => 0
  | t + 1 => if tcB lg t = true then tpL lg t ||| lN (2 ^ t) else tpL lg t
def lwL (lp : Int64) (w : Nat) : Int64 := if tb lp w = true then lp else 0
/-- how many bits a word has -/
def pcN (x : Int64) : Nat := fb_ct (tb x) 64
def lbN (x : Int64) : Nat := pcN ((x &&& -x) - 1)
def mdS (ts : Nat → Int64) (lp : Int64) (row : Nat) : Nat → Nat
  | 0 => 0
  | w + 1 => mdS ts lp row w + pcN (ts (row + w) &&& lwL lp w)
def dfL (ts fs : Nat → Int64) (i j sh : Nat) : Int64 :=
  (ts i ^^^ ((ts j).toUInt64 >>> ((nI sh).toInt64.toUInt64 &&& Int64.toUInt64 63)).toInt64) ||| (fs i ^^^ ((fs j).toUInt64 >>> ((nI sh).toInt64.toUInt64 &&& Int64.toUInt64 63)).toInt64)
def rgV (x : Int64) (y : Int64) (z : Int64) (acc : Nat) : Nat → Nat
  | 0 => acc
  | v + 1 => if pkL x y v &&& z = 0 then rgV x y z acc v else rgV x y z acc v ||| 2 ^ v
def rgS (ts fs : Nat → Int64) (lp : Int64) (row : Nat) : Nat → Nat
  | 0 => 0
  | w + 1 => rgV (ts (row + w)) (fs (row + w)) (lwL lp w) (rgS ts fs lp row w) 4
theorem lcz (x : Int64) : lg_cmp x 0 = 0 ↔ x = 0 := by
  unfold lg_cmp
  by_cases h : x > 0
  · rw [if_pos h]
    have h1 : ¬ x = 0 := fun q => by rw [q] at h; exact absurd h (by decide)
    simp [h1]
  · rw [if_neg h]
    by_cases h2 : x = 0 <;> simp [h2]
