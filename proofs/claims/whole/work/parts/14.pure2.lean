theorem lo_bad {x M : Int32} (h : x < 0 ∨ M ≤ x ∨ x = nI 0) (c : ¬ x < nI 1) : M ≤ x := by
  rcases h with q | q | q
  · refine absurd ?_ c
    rw [Int32.lt_iff_toInt_lt] at q ⊢
    rw [nI_toInt (by omega)]
    have h0 : (0 : Int32).toInt = 0 := by decide
    omega
  · exact q
  · refine absurd ?_ c
    rw [q]
    decide
/-- where M is one more than m: not at most m -/
theorem hi_bad {x : Int32} {m : Nat} (h : nI (m + 1) ≤ x) (hm : m < 2 ^ 30) : ¬ x ≤ nI m := by
  intro q
  rw [Int32.le_iff_toInt_le, nI_toInt (by omega)] at q h
  omega
theorem bt_nI {a i : Nat} (hi : i < 32) : bt (nI a) i = a.testBit i := by
  show (BitVec.ofNat 32 a).getLsbD i = _
  rw [BitVec.getLsbD_ofNat]
  simp [hi]
theorem andnot {a b k : Nat} (ha : a < 2 ^ k) : nI a &&& (nI b ^^^ (-1)) = nI (a &&& ((2 ^ k - 1) ^^^ b)) := by
  refine b_ext (fun i hi => ?_)
  rw [b_and, b_xor, b_m1 i hi, bt_nI hi, bt_nI hi, bt_nI hi, Nat.testBit_and, Nat.testBit_xor, Nat.testBit_two_pow_sub_one]
  rcases Nat.lt_or_ge i k with h | h
  · simp [h, Bool.xor_comm]
  · have : a.testBit i = false := Nat.testBit_lt_two_pow (Nat.lt_of_lt_of_le ha (Nat.pow_le_pow_right (by decide) h))
    simp [this]
theorem rI_ne {f : Nat} (h : f < 2 ^ 31) : ¬ rI (some f) = -1 := fun q => by
  have := (rI_none (o := some f) (fun g hg => by cases hg; exact h)).mp q
  cases this
/-- the first place at which p holds -/
def ffO (p : Nat → Bool) (n : Nat) : Option Nat := if fa_first p n < n then some (fa_first p n) else none
theorem ffO_at {p : Nat → Bool} {i n : Nat} (hi : i < n) (hp : p i = true) (hn : ∀ j, j < i → p j = false) : ffO p n = some i := by
  unfold ffO
  rw [ff_at hi hp hn, if_pos hi]
theorem ffO_none {p : Nat → Bool} {n : Nat} (hn : ∀ j, j < n → p j = false) : ffO p n = none := by
  unfold ffO
  rw [ff_none hn, if_neg (Nat.lt_irrefl n)]
/-- what a source says, changed at one atom -/
def rpU (x a v : Nat) : Nat := (x &&& (4095 ^^^ (3 * 2 ^ (2 * (5 - a))))) ||| (v * 2 ^ (2 * (5 - a)))
def syS (tr : Nat → Nat) (on : Nat → Bool) (lt : Nat) (dv : Nat → Nat) (b : Bool) : Nat → Nat
  | 0 => 0
  | k + 1 => if (hdB tr on lt k && told (dv k) b) = true then syS tr on lt dv b k ||| 2 ^ k else syS tr on lt dv b k
/-- the silent: which set, and its sum -/
def slF (all : Nat) (tr : Nat → Nat) (cf : Nat → Nat) : Nat → Option Nat × Nat
  | 0 => (none, 601)
  | k + 1 => if k &&& (63 ^^^ all) = 0 ∧ trS tr k 6 < (slF all tr cf k).2 ∧ cf (all &&& (63 ^^^ k)) = 0 then (some k, trS tr k 6) else slF all tr cf k
def agB (x y : Nat) : Bool := (told x true && told y false) || (told x false && told y true)
def ctS (dv st : Nat → Nat) : Nat → Nat
  | 0 => 0
  | k + 1 => if agB (dv k) (st k) = true then ctS dv st k + 1 else ctS dv st k
theorem ctS_le (dv st : Nat → Nat) : ∀ k, ctS dv st k ≤ k
  | 0 => Nat.le_refl _
  | k + 1 => by
    have := ctS_le dv st k
    unfold ctS
    split <;> omega
theorem trS_le {tr : Nat → Nat} (h : ∀ s, s < 6 → tr s ≤ 100) (set : Nat) : ∀ k, k ≤ 6 → trS tr set k ≤ 100 * k
  | 0, _ => Nat.le_refl _
  | k + 1, hk => by
    have ih := trS_le h set k (by omega)
    have := h k (by omega)
    unfold trS
    split <;> omega
theorem slF_lt {all : Nat} {tr : Nat → Nat} (h : ∀ s, s < 6 → tr s ≤ 100) (cf : Nat → Nat) : ∀ k, (slF all tr cf k).2 ≤ 601
  | 0 => Nat.le_refl _
  | k + 1 => by
    have ih := slF_lt h cf k (all := all)
    have := trS_le h k 6 (Nat.le_refl 6)
    unfold slF
    split
    · show trS tr k 6 ≤ 601
      omega
    · exact ih
def mixI (d : Int64) (x : Int32) : Int64 := d * 31 + x.toInt64
def foldD (g : Int64 → Nat → Int64) (d : Int64) : Nat → Int64
  | 0 => d
  | k + 1 => g (foldD g d k) k
