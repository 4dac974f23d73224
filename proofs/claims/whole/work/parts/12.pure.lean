theorem su31 : ∀ k, k < 32 → (((nI k).toUInt32 &&& Int32.toUInt32 31).toBitVec % 32).toNat = k := by decide +kernel
theorem sl31 : ∀ k, k < 32 → ((nI k &&& 31).toBitVec.smod 32).toNat = k := by decide +kernel
/-- unsigned shift to the right of a small number -/
theorem ushN {st k : Nat} (hst : st < 2 ^ 31) (hk : k < 32) : ((nI st).toUInt32 >>> ((nI k).toUInt32 &&& Int32.toUInt32 31)).toInt32 = nI (st / 2 ^ k) := pk_ushrN (by omega) _ k (su31 k hk)
theorem shrN {st k : Nat} (hst : st < 2 ^ 31) (hk : k < 32) : nI st >>> (nI k &&& 31) = nI (st / 2 ^ k) := pk_shrN hst _ k (sl31 k hk)
theorem shlN {a k : Nat} (hk : k < 32) (h : a * 2 ^ k < 2 ^ 32) : nI a <<< (nI k &&& 31) = nI (a * 2 ^ k) := pk_shlN _ k (sl31 k hk) h
theorem and3 {x : Nat} (h : x < 2 ^ 32) : nI x &&& nI 3 = nI (x % 4) := pk_andN h 2 (by decide)
theorem and1 {x : Nat} (h : x < 2 ^ 32) : nI x &&& nI 1 = nI (x % 2) := pk_andN h 1 (by decide)
/-- the digit of the atom a of a state -/
def dg (st a : Nat) : Nat := st / 2 ^ (2 * (5 - a)) % 4
theorem dg_lt (st a : Nat) : dg st a < 4 := Nat.mod_lt _ (by decide)
/-- told true, told false -/
def told (v : Nat) (b : Bool) : Bool := if b then decide (v % 2 = 1) else decide (v / 2 % 2 = 1)
def b2n (b : Bool) : Nat := if b then 1 else 0
theorem bI_b2n (b : Bool) : bI b = nI (b2n b) := by cases b <;> rfl
theorem upN (f : Nat → Nat) (j v : Nat) : upd (fun i => nI (f i)) j (nI v) = fun i => nI (va_up f j v i) := by
  funext i
  by_cases h : i = j <;> simp [upd, va_up, h]
theorem upB (f : Nat → Bool) (j : Nat) (v : Bool) : upd (fun i => bI (f i)) j (bI v) = fun i => bI (va_up f j v i) := by
  funext i
  by_cases h : i = j <;> simp [upd, va_up, h]
theorem upR (f : Nat → Option Nat) (j : Nat) (v : Option Nat) : upd (fun i => rI (f i)) j (rI v) = fun i => rI (va_up f j v i) := by
  funext i
  by_cases h : i = j <;> simp [upd, va_up, h]
theorem rI_none {o : Option Nat} (h : ∀ f, o = some f → f < 2 ^ 31) : rI o = -1 ↔ o = none := by
  cases o with
  | none => simp [rI]
  | some f =>
    simp only [rI, reduceCtorEq, iff_false]
    intro q
    have h1 := h f rfl
    have h2 : (nI f).toInt = (-1 : Int32).toInt := by rw [q]
    rw [nI_toInt h1] at h2
    have h3 : (-1 : Int32).toInt = -1 := by decide
    omega
