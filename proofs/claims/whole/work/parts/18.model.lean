/-! what the reference's methods answer -/
def inB (x lo hi : Int32) : Bool := decide (lo ≤ x) && decide (x ≤ hi)
theorem inB_n {a b c : Nat} (ha : a < 2 ^ 31) (hb : b < 2 ^ 31) (hc : c < 2 ^ 31) : inB (nI a) (nI b) (nI c) = (decide (b ≤ a) && decide (a ≤ c)) := by
  unfold inB
  rw [decide_eq_decide.mpr (nI_leI hb ha), decide_eq_decide.mpr (nI_leI ha hc)]
theorem inB_t {a b c : Nat} (h1 : b ≤ a) (h2 : a ≤ c) (hc : c < 2 ^ 31) : inB (nI a) (nI b) (nI c) = true := by
  rw [inB_n (by omega) (by omega) hc, decide_eq_true h1, decide_eq_true h2]
  rfl
theorem inB_lo {x : Int32} {b : Nat} {hi : Int32} (h : x < nI b) : inB x (nI b) hi = false := by
  unfold inB
  rw [decide_eq_false (fun q => by rw [Int32.lt_iff_toInt_lt] at h; rw [Int32.le_iff_toInt_le] at q; omega)]
  rfl
theorem inB_hi {x lo : Int32} {c : Nat} (h : nI (c + 1) ≤ x) (hc : c < 2 ^ 30) : inB x lo (nI c) = false := by
  unfold inB
  rw [decide_eq_false (p := x ≤ nI c) (hi_bad h hc)]
  simp
theorem inB_bad {x : Int32} {c : Nat} (h : x < 0 ∨ nI (c + 1) ≤ x) (hc : c < 2 ^ 30) : inB x (nI 0) (nI c) = false := by
  rcases h with h | h
  · exact inB_lo h
  · exact inB_hi h hc
theorem inB_bad1 {x : Int32} {c : Nat} (h : x < 0 ∨ nI (c + 1) ≤ x ∨ x = nI 0) (hc : c < 2 ^ 30) : inB x (nI 1) (nI c) = false := by
  by_cases q : x < nI 1
  · exact inB_lo q
  · exact inB_hi (lo_bad h q) hc
def gbS (sy : Nat → Nat) (h a : Nat) : Nat → Nat
  | 0 => 0
  | k + 1 => if h.testBit k = true then gbS sy h a k ||| sy (6 * k + a) else gbS sy h a k
theorem gbS_lt {sy : Nat → Nat} (hs : ∀ j, j < 36 → sy j < 4) {h a : Nat} (ha : a < 6) : ∀ k, k ≤ 6 → gbS sy h a k < 4
  | 0, _ => by simp [gbS]
  | k + 1, hk => by
    have ih := gbS_lt hs (h := h) ha k (by omega)
    unfold gbS
    split
    · exact Nat.or_lt_two_pow (n := 2) ih (hs _ (by omega))
    · exact ih
/-- six digits put together -/
def bgS (g : Nat → Nat) : Nat → Nat
  | 0 => 0
  | k + 1 => 4 * bgS g k + g k
theorem bgS_lt {g : Nat → Nat} (hg : ∀ a, a < 6 → g a < 4) : ∀ k, k ≤ 6 → bgS g k < 4 ^ k
  | 0, _ => by simp [bgS]
  | k + 1, hk => by
    have ih := bgS_lt hg k (by omega)
    have := hg k (by omega)
    unfold bgS
    rw [Nat.pow_succ]
    omega
theorem bgS_lt6 {g : Nat → Nat} (hg : ∀ a, a < 6 → g a < 4) : bgS g 6 < 4096 := bgS_lt hg 6 (Nat.le_refl 6)
def stp (k x v a b : Nat) : Nat :=
  if k = 0 then dg v x else if k = 1 then x else if k = 2 then a % 2 * 2 + a / 2 % 2 else if k = 3 then (a &&& b &&& 1) ||| ((a ||| b) &&& 2) else if k = 4 then ((a ||| b) &&& 1) ||| (a &&& b &&& 2) else if k = 5 then a &&& b else if k = 6 then a ||| b else if k = 7 then (if a % 2 = 0 then 1 else b) else (if a / 2 % 2 = 0 then 1 else 0) + (if a % 2 = 0 then 2 else 0)
def wvA (kd fi se : Nat → Nat) (v : Nat) : Nat → Nat → Nat
  | 0 => fun _ => 0
  | i + 1 => va_up (wvA kd fi se v i) i (stp (kd i) (fi i) v (wvA kd fi se v i (fi i)) (wvA kd fi se v i (se i)))
def wv (kd fi se : Nat → Nat) (f v : Nat) : Nat := wvA kd fi se v (f + 1) f
theorem wvA_at {kd fi se : Nat → Nat} {v j : Nat} : ∀ {i : Nat}, j < i → wvA kd fi se v i j = wv kd fi se j v
  | 0, h => absurd h (Nat.not_lt_zero j)
  | i + 1, h => by
    rcases Nat.lt_or_ge j i with q | q
    · show va_up (wvA kd fi se v i) i _ j = _
      rw [va_up_ne _ _ (by omega)]
      exact wvA_at q
    · have e : j = i := by omega
      subst e
      rfl
theorem wv_eq (kd fi se : Nat → Nat) (f v : Nat) : wv kd fi se f v = stp (kd f) (fi f) v (wvA kd fi se v f (fi f)) (wvA kd fi se v f (se f)) := by
  show va_up (wvA kd fi se v f) f _ f = _
  simp [va_up]
/-- what a state of the reference keeps to -/
def WF (n : Nat) (kd fi se : Nat → Nat) : Prop := ∀ f, f < n → kd f < 9 ∧ (kd f = 0 → fi f < 6) ∧ (kd f = 1 → fi f < 4) ∧ (2 ≤ kd f → fi f < f) ∧ (3 ≤ kd f ∧ kd f ≤ 7 → se f < f)
def OKM (n : Nat) (kd fi se tr sy : Nat → Nat) (lt lg : Nat) (ru : Nat → Option Nat) : Prop := n ≤ 40 ∧ (∀ s, s < 6 → tr s ≤ 100) ∧ (∀ j, j < 36 → sy j < 4) ∧ lt ≤ 100 ∧ lg < 16 ∧ (∀ a f, a < 6 → ru a = some f → f < n) ∧ WF n kd fi se
theorem stp_lt : ∀ k, 2 ≤ k → ∀ a, a < 4 → ∀ b, b < 4 → ∀ x v, stp k x v a b < 4 := by
  intro k hk a ha b hb x v
  unfold stp
  rw [if_neg (by omega), if_neg (by omega)]
  have h1 : a &&& b < 4 := Nat.lt_of_le_of_lt Nat.and_le_left ha
  have h2 : a ||| b < 4 := Nat.or_lt_two_pow (n := 2) ha hb
  repeat' split
  all_goals first
    | omega
    | exact h1
    | exact h2
    | exact Nat.or_lt_two_pow (n := 2) (Nat.lt_of_le_of_lt Nat.and_le_right (by decide)) (Nat.lt_of_le_of_lt Nat.and_le_right (by decide))
theorem wv_lt {n : Nat} {kd fi se : Nat → Nat} (hw : WF n kd fi se) (v : Nat) : ∀ f, f < n → wv kd fi se f v < 4 := by
  intro f
  induction f using Nat.strongRecOn with
  | ind f ih =>
    intro hf
    obtain ⟨h9, h0, h1, h2, h3⟩ := hw f hf
    rw [wv_eq]
    by_cases e0 : kd f = 0
    · rw [e0]; exact dg_lt _ _
    · by_cases e1 : kd f = 1
      · rw [e1]; exact h1 e1
      · have ha : wvA kd fi se v f (fi f) < 4 := by
          rw [wvA_at (h2 (by omega))]
          exact ih _ (h2 (by omega)) (Nat.lt_trans (h2 (by omega)) hf)
        by_cases e3 : 3 ≤ kd f ∧ kd f ≤ 7
        · have hb : wvA kd fi se v f (se f) < 4 := by
            rw [wvA_at (h3 e3)]
            exact ih _ (h3 e3) (Nat.lt_trans (h3 e3) hf)
          exact stp_lt _ (by omega) _ ha _ hb _ _
        · have hk : kd f = 2 ∨ kd f = 8 := by omega
          have hz : ∀ b, stp (kd f) (fi f) v (wvA kd fi se v f (fi f)) b = stp (kd f) (fi f) v (wvA kd fi se v f (fi f)) 0 := by
            intro b
            rcases hk with e | e <;> rw [e] <;> rfl
          rw [hz]
          exact stp_lt _ (by omega) _ ha 0 (by decide) _ _
theorem wv_k {kd fi se : Nat → Nat} {f v k : Nat} (e : kd f = k) (h1 : fi f < f) (h2 : se f < f ∨ k = 2 ∨ k = 8) : wv kd fi se f v = stp k (fi f) v (wv kd fi se (fi f) v) (if k = 2 ∨ k = 8 then 0 else wv kd fi se (se f) v) := by
  rw [wv_eq, e, wvA_at h1]
  rcases h2 with h | h | h
  · by_cases q : k = 2 ∨ k = 8
    · rw [if_pos q]
      rcases q with q | q <;> rw [q] <;> rfl
    · rw [if_neg q, wvA_at h]
  · rw [if_pos (Or.inl h), h]; rfl
  · rw [if_pos (Or.inr h), h]; rfl
theorem i_not : ∀ a, a < 4 → (nI a &&& nI 1) * nI 2 + (nI a &&& nI 2) / nI 2 = nI (stp 2 0 0 a 0) := by decide
theorem i_and : ∀ a, a < 4 → ∀ b, b < 4 → ((nI a &&& nI b) &&& nI 1) ||| ((nI a ||| nI b) &&& nI 2) = nI (stp 3 0 0 a b) := by decide
theorem i_or : ∀ a, a < 4 → ∀ b, b < 4 → ((nI a ||| nI b) &&& nI 1) ||| ((nI a &&& nI b) &&& nI 2) = nI (stp 4 0 0 a b) := by decide
theorem i_open : ∀ a, a < 4 → (nI (if a / 2 % 2 = 0 then 1 else 0) + nI (if a % 2 = 0 then 2 else 0)) = nI (stp 8 0 0 a 0) := by decide
/-- the states that the reference goes through -/
def gG (sy : Nat → Nat) (ev : Nat → Nat → Nat) (ru : Nat → Option Nat) (h v a : Nat) : Nat := gbS sy h a 6 ||| (match ru a with | none => 0 | some f => ev f v)
def mIt (sy : Nat → Nat) (ev : Nat → Nat → Nat) (ru : Nat → Option Nat) (h : Nat) : Nat → Nat
  | 0 => bgS (fun a => gbS sy h a 6) 6
  | r + 1 => bgS (gG sy ev ru h (mIt sy ev ru h r)) 6
theorem mIt_fix {sy : Nat → Nat} {ev : Nat → Nat → Nat} {ru : Nat → Option Nat} {h r : Nat} (e : mIt sy ev ru h (r + 1) = mIt sy ev ru h r) : ∀ d, mIt sy ev ru h (r + d) = mIt sy ev ru h r
  | 0 => rfl
  | d + 1 => by
    show bgS (gG sy ev ru h (mIt sy ev ru h (r + d))) 6 = _
    rw [mIt_fix e d]
    exact e
theorem mIt_at {sy : Nat → Nat} {ev : Nat → Nat → Nat} {ru : Nat → Option Nat} {h r k : Nat} (e : mIt sy ev ru h (r + 1) = mIt sy ev ru h r) (hk : r ≤ k) : mIt sy ev ru h k = mIt sy ev ru h r := by
  have := mIt_fix e (k - r)
  rwa [show r + (k - r) = k by omega] at this
def cnS (lg v : Nat) : Nat → Bool
  | 0 => true
  | k + 1 => cnS lg v k && lg.testBit (dg v k)
def rgM (c : Nat → Bool) (e : Nat → Nat) : Nat → Nat
  | 0 => 0
  | v + 1 => if c v = true then rgM c e v ||| 2 ^ e v else rgM c e v
def eqS (c : Nat → Bool) (e g : Nat → Nat) : Nat → Bool
  | 0 => true
  | v + 1 => eqS c e g v && (!c v || decide (e v = g v))
theorem eqS_f {c : Nat → Bool} {e g : Nat → Nat} {i : Nat} (h : eqS c e g i = false) : ∀ d, eqS c e g (i + d) = false
  | 0 => h
  | d + 1 => by
    show (eqS c e g (i + d) && _) = false
    rw [eqS_f h d]
    rfl
def fdS (c : Nat → Bool) (e : Nat → Nat) (v p : Nat) : Nat → Nat
  | 0 => 0
  | x + 1 => if c (v + x * p) = true then fdS c e v p x ||| 2 ^ e (v + x * p) else fdS c e v p x
def dpS (q : Nat → Bool) : Nat → Bool
  | 0 => false
  | v + 1 => dpS q v || q v
theorem dpS_t {q : Nat → Bool} {i : Nat} (h : dpS q i = true) : ∀ d, dpS q (i + d) = true
  | 0 => h
  | d + 1 => by
    show (dpS q (i + d) || _) = true
    rw [dpS_t h d]
    rfl
/-- the reference's search for the silent -/
def slM (all : Nat) (tr : Nat → Nat) (cf : Nat → Nat) : Nat → Option Nat × Nat
  | 0 => (none, 0)
  | k + 1 => if k &&& (63 ^^^ all) = 0 ∧ ((slM all tr cf k).1 = none ∨ trS tr k 6 < (slM all tr cf k).2) ∧ cf (all &&& (63 ^^^ k)) = 0 then (some k, trS tr k 6) else slM all tr cf k
/-- the share of the contradicted -/
def dcV (x y : Nat) : UInt64 := if 6 - fb_ct (fun i => Nat.testBit y i) 6 = 0 then FP.dconst0 else FP.ddiv (FP.i2d (nI (fb_ct (fun i => Nat.testBit x i) 6))) (FP.i2d (nI (6 - fb_ct (fun i => Nat.testBit y i) 6)))
theorem ddn : ∀ a, a ≤ 6 → ∀ b, b ≤ 6 → ¬ b = 0 → vf_n64 (FP.ddiv (FP.i2d (nI a)) (FP.i2d (nI b))) := by
  unfold vf_n64
  decide +kernel
def dgF (n : Nat) (kd : Nat → Nat) (lt : Nat) (tr : Nat → Nat) (on : Nat → Bool) (sv : Nat → Nat → Nat) (ru : Nat → Option Nat) (first last : Nat → Nat) (rd lg : Nat) : Int64 :=
  mixI (mixI (foldD (fun d a => mixI (mixI (mixI d (rI (ru a))) (nI (first a))) (nI (last a))) (foldD (fun d s => foldD (fun d a => mixI d (nI (sv s a))) (mixI (mixI d (nI (tr s))) (bI (on s))) 6) (mixI (foldD (fun d j => mixI d (nI (kd j))) (mixI 131 (nI n)) n) (nI lt)) 6) 6) (nI rd)) (nI lg)
