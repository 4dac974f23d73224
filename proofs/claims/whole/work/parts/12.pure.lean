theorem su31 : ∀ k, k < 32 → (((nI k).toUInt32 &&& Int32.toUInt32 31).toBitVec % 32).toNat = k := by decide +kernel
theorem sl31 : ∀ k, k < 32 → ((nI k &&& 31).toBitVec.smod 32).toNat = k := by decide +kernel
/-- unsigned shift to the right of a small number -/
theorem ushN {st k : Nat} (hst : st < 2 ^ 31) (hk : k < 32) : ((nI st).toUInt32 >>> ((nI k).toUInt32 &&& Int32.toUInt32 31)).toInt32 = nI (st / 2 ^ k) := pk_ushrN (by omega) _ k (su31 k hk)
theorem shrN {st k : Nat} (hst : st < 2 ^ 31) (hk : k < 32) : nI st >>> (nI k &&& 31) = nI (st / 2 ^ k) := pk_shrN hst _ k (sl31 k hk)
theorem shlN {a k : Nat} (hk : k < 32) (h : a * 2 ^ k < 2 ^ 32) : nI a <<< (nI k &&& 31) = nI (a * 2 ^ k) := pk_shlN _ k (sl31 k hk) h
theorem and3 {x : Nat} (h : x < 2 ^ 32) : nI x &&& nI 3 = nI (x % 4) := pk_andN h 2 (by decide)
theorem and1 {x : Nat} (h : x < 2 ^ 32) : nI x &&& nI 1 = nI (x % 2) := pk_andN h 1 (by decide)
/-- the digit of the atom a of a state -/
def dg (st a : Nat) : Nat := st / 2 ^ (2 * (5 - a)) % 4
theorem dg_lt (st a : Nat) : dg st a < 4 := Nat.mod_lt _ (by decide)
/-- told true, told false -/
def told (v : Nat) (b : Bool) : Bool := if b then decide (v % 2 = 1) else decide (v / 2 % 2 = 1)
def b2n (b : Bool) : Nat := if b then 1 else 0
theorem bI_b2n (b : Bool) : bI b = nI (b2n b) := by cases b <;> rfl
theorem upN (f : Nat → Nat) (j v : Nat) : upd (fun i => nI (f i)) j (nI v) = fun i => nI (va_up f j v i) := by
  funext i
  by_cases h : i = j <;> simp [upd, va_up, h]
theorem upB (f : Nat → Bool) (j : Nat) (v : Bool) : upd (fun i => bI (f i)) j (bI v) = fun i => bI (va_up f j v i) := by
  funext i
  by_cases h : i = j <;> simp [upd, va_up, h]
theorem upR (f : Nat → Option Nat) (j : Nat) (v : Option Nat) : upd (fun i => rI (f i)) j (rI v) = fun i => rI (va_up f j v i) := by
  funext i
  by_cases h : i = j <;> simp [upd, va_up, h]
theorem rI_none {o : Option Nat} (h : ∀ f, o = some f → f < 2 ^ 31) : rI o = -1 ↔ o = none := by
  cases o with
  | none => simp [rI]
  | some f =>
    simp only [rI, reduceCtorEq, iff_false]
    intro q
    have h1 := h f rfl
    have h2 : (nI f).toInt = (-1 : Int32).toInt := by rw [q]
    rw [nI_toInt h1] at h2
    have h3 : (-1 : Int32).toInt = -1 := by decide
    omega
/-! bits of words -/
def tb (x : Int64) (i : Nat) : Bool := x.toBitVec.getLsbD i
theorem tb_lN {n k : Nat} (hk : k < 64) : tb (lN n) k = n.testBit k := by
  unfold tb
  rw [wb_tb, BitVec.getLsbD_ofNat]
  simp [hk]
theorem nat_bit (n k : Nat) : n / 2 ^ k % 2 = b2n (n.testBit k) := by
  rw [Nat.testBit_eq_decide_div_mod_eq]
  unfold b2n
  have h : n / 2 ^ k % 2 < 2 := Nat.mod_lt _ (by decide)
  by_cases q : n / 2 ^ k % 2 = 1
  · simp [q]
  · have : n / 2 ^ k % 2 = 0 := by omega
    simp [this]
theorem lkb (x : Int64) {k : Nat} (hk : k < 64) : ((x.toUInt64 >>> ((nI k).toInt64.toUInt64 &&& Int64.toUInt64 63)).toInt64 &&& 1).toInt32 = nI (b2n (tb x k)) := by
  obtain ⟨n, hn, rfl⟩ := wb_of x
  rw [wb_bit hn hk, lN_i, tb_lN hk, nat_bit]
theorem lkc (x : Int64) {k : Nat} (hk : k < 64) : (x.toUInt64 >>> ((nI k).toInt64.toUInt64 &&& Int64.toUInt64 63)).toInt64 &&& 1 = lN (b2n (tb x k)) := by
  obtain ⟨n, hn, rfl⟩ := wb_of x
  rw [wb_bit hn hk, tb_lN hk, nat_bit]
theorem bit0 {x k : Nat} : nI (x / 2 ^ k % 2) = 0 ↔ x.testBit k = false := by
  rw [nat_bit]
  cases x.testBit k <;> decide
theorem shl1 {k : Nat} (hk : k < 31) : nI 1 <<< (nI k &&& 31) = nI (2 ^ k) := by
  have h : 1 * 2 ^ k < 2 ^ 32 := by
    rw [Nat.one_mul]; exact Nat.pow_lt_pow_right (by decide) (by omega)
  rw [shlN (by omega) h, Nat.one_mul]
theorem p10 {k : Nat} : 2 ^ (2 * (5 - k)) ≤ 1024 := Nat.pow_le_pow_right (n := 2) (j := 10) (by decide) (by omega)
theorem shlP {v k : Nat} (hv : v < 4) : nI v <<< (nI (2 * (5 - k)) &&& 31) = nI (v * 2 ^ (2 * (5 - k))) := by
  refine shlN (by omega) ?_
  exact Nat.lt_of_le_of_lt (Nat.mul_le_mul (show v ≤ 3 by omega) (p10 (k := k))) (by decide)
theorem b2n_lt (b : Bool) : b2n b < 2 := by cases b <;> decide
/-! what the class's methods answer -/
def awS (st v : Nat) : Nat → Nat
  | 0 => 0
  | k + 1 => if dg st k = v then awS st v k ||| 2 ^ k else awS st v k
def hdB (tr : Nat → Nat) (on : Nat → Bool) (lt k : Nat) : Bool := on k && decide (lt ≤ tr k)
def hsS (tr : Nat → Nat) (on : Nat → Bool) (lt : Nat) : Nat → Nat
  | 0 => 0
  | k + 1 => if hdB tr on lt k = true then hsS tr on lt k ||| 2 ^ k else hsS tr on lt k
def gsS (rp : Nat → Nat) (set : Nat) : Nat → Nat
  | 0 => 0
  | k + 1 => if set.testBit k = true then gsS rp set k ||| rp k else gsS rp set k
def trS (tr : Nat → Nat) (set : Nat) : Nat → Nat
  | 0 => 0
  | k + 1 => if set.testBit k = true then trS tr set k + tr k else trS tr set k
def lkN (ts fs : Nat → Int64) (f v : Nat) : Nat := b2n (tb (ts (f * 64 + v / 64)) (v % 64)) + 2 * b2n (tb (fs (f * 64 + v / 64)) (v % 64))
theorem lkN_lt (ts fs : Nat → Int64) (f v : Nat) : lkN ts fs f v < 4 := by
  have h1 := b2n_lt (tb (ts (f * 64 + v / 64)) (v % 64))
  have h2 := b2n_lt (tb (fs (f * 64 + v / 64)) (v % 64))
  unfold lkN
  omega
/-- the next state: ev is the value of a formula at a state -/
def nxS (ev : Nat → Nat → Nat) (ru : Nat → Option Nat) (first st : Nat) : Nat → Nat
  | 0 => first
  | k + 1 => match ru k with
    | none => nxS ev ru first st k
    | some f => nxS ev ru first st k ||| (ev f st * 2 ^ (2 * (5 - k)))
def itS (ev : Nat → Nat → Nat) (ru : Nat → Option Nat) (first : Nat) : Nat → Nat
  | 0 => first
  | r + 1 => nxS ev ru first (itS ev ru first r) 6
theorem gsS_lt {rp : Nat → Nat} (h : ∀ s, s < 6 → rp s < 4096) (set : Nat) : ∀ k, k ≤ 6 → gsS rp set k < 4096
  | 0, _ => by simp [gsS]
  | k + 1, hk => by
    have ih := gsS_lt h set k (by omega)
    unfold gsS
    split
    · exact Nat.or_lt_two_pow (n := 12) ih (h k (by omega))
    · exact ih
theorem dgp_lt {v k : Nat} (hv : v < 4) : v * 2 ^ (2 * (5 - k)) < 4096 := Nat.lt_of_le_of_lt (Nat.mul_le_mul (show v ≤ 3 by omega) (p10 (k := k))) (by decide)
theorem nxS_lt {ev : Nat → Nat → Nat} (he : ∀ f v, ev f v < 4) (ru : Nat → Option Nat) {first : Nat} (hf : first < 4096) (st : Nat) : ∀ k, nxS ev ru first st k < 4096
  | 0 => hf
  | k + 1 => by
    have ih := nxS_lt he ru hf st k
    unfold nxS
    split
    · exact ih
    · exact Nat.or_lt_two_pow (n := 12) ih (dgp_lt (he _ _))
theorem itS_lt {ev : Nat → Nat → Nat} (he : ∀ f v, ev f v < 4) (ru : Nat → Option Nat) {first : Nat} (hf : first < 4096) : ∀ r, itS ev ru first r < 4096
  | 0 => hf
  | r + 1 => nxS_lt he ru hf _ 6
theorem itS_fix {ev : Nat → Nat → Nat} {ru : Nat → Option Nat} {first r : Nat} (h : itS ev ru first (r + 1) = itS ev ru first r) : ∀ d, itS ev ru first (r + d) = itS ev ru first r
  | 0 => rfl
  | d + 1 => by
    show nxS ev ru first (itS ev ru first (r + d)) 6 = _
    rw [itS_fix h d]
    exact h
theorem itS_at {ev : Nat → Nat → Nat} {ru : Nat → Option Nat} {first r k : Nat} (h : itS ev ru first (r + 1) = itS ev ru first r) (hk : r ≤ k) : itS ev ru first k = itS ev ru first r := by
  have := itS_fix h (k - r)
  rwa [show r + (k - r) = k by omega] at this
theorem ff_at {p : Nat → Bool} {i n : Nat} (hi : i < n) (hp : p i = true) (hn : ∀ j, j < i → p j = false) : fa_first p n = i := by
  have h1 := fa_first_le p n
  rcases Nat.lt_trichotomy (fa_first p n) i with h | h | h
  · have := fa_first_yes p n (by omega)
    rw [hn _ h] at this
    cases this
  · exact h
  · have := fa_first_no p n i h
    rw [hp] at this
    cases this
theorem ff_none {p : Nat → Bool} {n : Nat} (hn : ∀ j, j < n → p j = false) : fa_first p n = n := by
  have h1 := fa_first_le p n
  rcases Nat.lt_or_ge (fa_first p n) n with h | h
  · have := fa_first_yes p n h
    rw [hn _ h] at this
    cases this
  · omega
/-- what a state of the class keeps to -/
def OKC (n : Nat) (tr rp : Nat → Nat) (lt lg : Nat) (ru : Nat → Option Nat) : Prop := n ≤ 40 ∧ (∀ s, s < 6 → tr s ≤ 100) ∧ (∀ s, s < 6 → rp s < 4096) ∧ lt ≤ 100 ∧ lg < 16 ∧ ∀ a f, a < 6 → ru a = some f → f < n
theorem rI_some {o : Option Nat} (h : ¬ rI o = -1) : ∃ f, o = some f := by
  cases o with
  | none => exact absurd rfl h
  | some f => exact ⟨f, rfl⟩
