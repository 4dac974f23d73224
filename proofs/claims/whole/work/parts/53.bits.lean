/-! words bit by bit -/
theorem tb_and (x y : Int64) (i : Nat) : tb (x &&& y) i = (tb x i && tb y i) := by unfold tb; rw [Int64.toBitVec_and, BitVec.getLsbD_and]
theorem tb_or (x y : Int64) (i : Nat) : tb (x ||| y) i = (tb x i || tb y i) := by unfold tb; rw [Int64.toBitVec_or, BitVec.getLsbD_or]
theorem tb_xor (x y : Int64) (i : Nat) : tb (x ^^^ y) i = (tb x i ^^ tb y i) := by unfold tb; rw [Int64.toBitVec_xor, BitVec.getLsbD_xor]
theorem tb_m1 : ∀ i, i < 64 → tb (-1) i = true := by decide +kernel
theorem tb_z (i : Nat) : tb 0 i = false := by
  show (0#64).getLsbD i = false
  simp
theorem tb_not (x : Int64) {i : Nat} (hi : i < 64) : tb (x ^^^ (-1)) i = !tb x i := by rw [tb_xor, tb_m1 i hi]; simp
theorem tb_ext {x y : Int64} (h : ∀ i, i < 64 → tb x i = tb y i) : x = y := wb_inj (BitVec.eq_of_getLsbD_eq (fun i hi => h i hi))
theorem tb_0 {x : Int64} : x = 0 ↔ ∀ i, i < 64 → tb x i = false := by
  constructor
  · intro h i _
    rw [h]; exact tb_z i
  · intro h
    exact tb_ext (fun i hi => by rw [h i hi, tb_z])
theorem tb_n0 {x : Int64} : ¬ x = 0 ↔ ∃ i, i < 64 ∧ tb x i = true := by
  constructor
  · intro h
    rcases Classical.em (∃ i, i < 64 ∧ tb x i = true) with q | q
    · exact q
    · exact absurd (tb_0.mpr (fun i hi => ts_nt (fun z => q ⟨i, hi, z⟩))) h
  · rintro ⟨i, hi, h⟩ q
    rw [tb_0.mp q i hi] at h
    cases h
theorem tb_shr (x : Int64) {k i : Nat} (hk : k < 64) (hi : i < 64) : tb (x.toUInt64 >>> ((nI k).toInt64.toUInt64 &&& Int64.toUInt64 63)).toInt64 i = (decide (i + k < 64) && tb x (i + k)) := by
  obtain ⟨n, hn, rfl⟩ := wb_of x
  rw [wb_shr hn hk, tb_lN hi, Nat.testBit_div_two_pow]
  rcases Nat.lt_or_ge (i + k) 64 with h | h
  · rw [tb_lN h, decide_eq_true h]; simp
  · rw [decide_eq_false (by omega), Nat.testBit_lt_two_pow (Nat.lt_of_lt_of_le hn (Nat.pow_le_pow_right (by decide) h))]; simp
theorem bn_t (x y : Bool) : told (b2n x + 2 * b2n y) true = x := by cases x <;> cases y <;> decide
theorem bn_f (x y : Bool) : told (b2n x + 2 * b2n y) false = y := by cases x <;> cases y <;> decide
theorem told_ext : ∀ a, a < 4 → ∀ b, b < 4 → told a true = told b true → told a false = told b false → a = b := by decide
theorem told_n : ∀ a, a < 4 → a = b2n (told a true) + 2 * b2n (told a false) := by decide
theorem lk_t (ts fs : Nat → Int64) (f v : Nat) : told (lkN ts fs f v) true = tb (ts (f * 64 + v / 64)) (v % 64) := bn_t _ _
theorem lk_f (ts fs : Nat → Int64) (f v : Nat) : told (lkN ts fs f v) false = tb (fs (f * 64 + v / 64)) (v % 64) := bn_f _ _
theorem tp_b (lg : Nat) {t : Nat} (ht : t < 64) : ∀ k, k ≤ 64 → tb (tpL lg k) t = (decide (t < k) && tcB lg t)
  | 0, _ => by simp [tpL, tb_z]
  | k + 1, hk => by
    have ih := tp_b lg ht k (by omega)
    unfold tpL
    by_cases h : tcB lg k = true
    · rw [if_pos h, tb_or, ih, tb_lN ht, Nat.testBit_two_pow]
      rcases Nat.lt_trichotomy t k with q | q | q
      · simp [q, Nat.lt_succ_of_lt q, show ¬ k = t by omega]
      · subst q; simp [h]
      · simp [show ¬ t < k by omega, show ¬ t < k + 1 by omega, show ¬ k = t by omega]
    · rw [if_neg h, ih]
      rcases Nat.lt_trichotomy t k with q | q | q
      · simp [q, Nat.lt_succ_of_lt q]
      · subst q; simp [ts_nt h]
      · simp [show ¬ t < k by omega, show ¬ t < k + 1 by omega]
theorem lw_b (lg : Nat) {w i : Nat} (hw : w < 64) (hi : i < 64) : tb (lwL (tpL lg 64) w) i = (tcB lg w && tcB lg i) := by
  unfold lwL
  have h1 := tp_b lg hw 64 (Nat.le_refl _)
  have h2 := tp_b lg hi 64 (Nat.le_refl _)
  rw [decide_eq_true hw, Bool.true_and] at h1
  rw [decide_eq_true hi, Bool.true_and] at h2
  by_cases h : tcB lg w = true
  · rw [h1, if_pos h, h2, h]; rfl
  · rw [h1, if_neg h, tb_z, ts_nt h]; rfl
theorem dg_w {v : Nat} (hv : v < 4096) : dg v 0 = v / 64 / 16 ∧ dg v 1 = v / 64 / 4 % 4 ∧ dg v 2 = v / 64 % 4 ∧ dg v 3 = v % 64 / 16 ∧ dg v 4 = v % 64 / 4 % 4 ∧ dg v 5 = v % 64 % 4 := by
  refine ⟨?_, ?_, ?_, ?_, ?_, ?_⟩
  · show v / 1024 % 4 = v / 64 / 16
    omega
  · show v / 256 % 4 = v / 64 / 4 % 4
    omega
  · show v / 64 % 4 = v / 64 % 4
    rfl
  · show v / 16 % 4 = v % 64 / 16
    omega
  · show v / 4 % 4 = v % 64 / 4 % 4
    omega
  · show v / 1 % 4 = v % 64 % 4
    omega
theorem cn_w (lg : Nat) {v : Nat} (hv : v < 4096) : cnS lg v 6 = (tcB lg (v / 64) && tcB lg (v % 64)) := by
  obtain ⟨h0, h1, h2, h3, h4, h5⟩ := dg_w hv
  show ((((((true && lg.testBit (dg v 0)) && lg.testBit (dg v 1)) && lg.testBit (dg v 2)) && lg.testBit (dg v 3)) && lg.testBit (dg v 4)) && lg.testBit (dg v 5)) = _
  rw [h0, h1, h2, h3, h4, h5]
  unfold tcB
  simp [Bool.and_assoc]
/-- the lowest bit of a word -/
theorem lN_neg {n : Nat} (h0 : 0 < n) (hn : n < 2 ^ 64) : -(lN n) = lN (2 ^ 64 - n) := by
  refine wb_inj ?_
  rw [Int64.toBitVec_neg, wb_tb, wb_tb]
  apply BitVec.eq_of_toNat_eq
  rw [BitVec.toNat_neg, BitVec.toNat_ofNat, BitVec.toNat_ofNat, Nat.mod_eq_of_lt hn, Nat.mod_eq_of_lt (by omega)]
theorem low_and {n i : Nat} (hn : n < 2 ^ 64) (hi : n.testBit i = true) (hl : ∀ j, j < i → n.testBit j = false) (h64 : i < 64) : n &&& (2 ^ 64 - n) = 2 ^ i := by
  have h0 : n % 2 ^ i = 0 := by
    apply Nat.eq_of_testBit_eq
    intro j
    rw [Nat.testBit_mod_two_pow, Nat.zero_testBit]
    by_cases q : j < i
    · rw [hl j q]; simp
    · simp [q]
  have h1 : n / 2 ^ i % 2 = 1 := by
    rw [nat_bit, hi]; rfl
  have hp : 0 < 2 ^ i := Nat.two_pow_pos i
  obtain ⟨r, hr⟩ : ∃ r, n / 2 ^ i = 2 * r + 1 := ⟨n / 2 ^ i / 2, by omega⟩
  have hn2 : n = 2 ^ i * (2 * r + 1) + 0 := by
    have := Nat.div_add_mod n (2 ^ i)
    rw [h0, hr] at this
    omega
  have hpos : 0 < n := by
    rw [hn2]
    exact Nat.lt_of_lt_of_le hp (by rw [Nat.add_zero]; exact Nat.le_mul_of_pos_right _ (by omega))
  have hm : n - 1 = 2 ^ i * (2 * r) + (2 ^ i - 1) := by
    rw [hn2, Nat.mul_add, Nat.mul_one]
    omega
  apply Nat.eq_of_testBit_eq
  intro j
  rw [Nat.testBit_and, Nat.testBit_two_pow]
  have e : 2 ^ 64 - n = 2 ^ 64 - ((n - 1) + 1) := by omega
  rw [e, Nat.testBit_two_pow_sub_succ (by omega), hm, Nat.testBit_two_pow_mul_add _ (by omega)]
  rcases Nat.lt_trichotomy j i with q | q | q
  · rw [hl j q]; simp [show ¬ i = j by omega]
  · subst q
    rw [hi, if_neg (Nat.lt_irrefl _), Nat.sub_self]
    simp [h64]
  · have e2 : n.testBit j = (2 * r + 1).testBit (j - i) := by
      conv => lhs; rw [hn2]
      rw [Nat.testBit_two_pow_mul_add _ hp, if_neg (by omega)]
    obtain ⟨d, hd⟩ : ∃ d, j - i = d + 1 := ⟨j - i - 1, by omega⟩
    rw [e2, if_neg (by omega), hd, Nat.testBit_succ, Nat.testBit_succ, show (2 * r + 1) / 2 = r by omega, show 2 * r / 2 = r by omega]
    simp [show ¬ i = j by omega]
    exact fun h _ => h
theorem pc_ones {i : Nat} (hi : i < 64) : pcN (lN (2 ^ i - 1)) = i := by
  unfold pcN
  have h : fb_ct (tb (lN (2 ^ i - 1))) 64 = fb_ct (fun j => decide (j < i)) 64 := fb_ct_cong (fun j hj => by rw [tb_lN hj, Nat.testBit_two_pow_sub_one])
  rw [h]
  have key : ∀ k, fb_ct (fun j => decide (j < i)) k = min k i := by
    intro k
    induction k with
    | zero => simp [fb_ct]
    | succ k ih =>
      rw [fb_ct_succ, ih]
      by_cases q : k < i
      · simp [q]; omega
      · simp [q]; omega
  rw [key]
  omega
theorem lb_eq {x : Int64} {i : Nat} (hi : i < 64) (ht : tb x i = true) (hl : ∀ j, j < i → tb x j = false) : lbN x = i := by
  obtain ⟨n, hn, rfl⟩ := wb_of x
  have h1 : n.testBit i = true := by rw [← tb_lN hi]; exact ht
  have h2 : ∀ j, j < i → n.testBit j = false := fun j hj => by rw [← tb_lN (by omega)]; exact hl j hj
  have hpos : 0 < n := by
    rcases Nat.eq_zero_or_pos n with q | q
    · rw [q, Nat.zero_testBit] at h1; cases h1
    · exact q
  unfold lbN
  have h1L : (1 : Int64) = lN 1 := rfl
  rw [lN_neg hpos hn, fb_andL, low_and hn h1 h2 hi, h1L, lN_sub (Nat.two_pow_pos i)]
  exact pc_ones hi
/-- valuations and words -/
theorem nb_b : ∀ b, b < 6 → ∀ i, i < 64 → tb (NB b) i = i.testBit b := by decide +kernel
theorem vb_b {b w i : Nat} (hb : b < 12) (hw : w < 64) (hi : i < 64) : tb (vbL b w) i = (64 * w + i).testBit b := by
  have e : (64 * w + i).testBit b = if b < 6 then i.testBit b else w.testBit (b - 6) := Nat.testBit_two_pow_mul_add (i := 6) w hi b
  rw [e]
  unfold vbL
  by_cases h : b < 6
  · rw [if_pos h, if_pos h]; exact nb_b b h i hi
  · rw [if_neg h, if_neg h]
    cases q : w.testBit (b - 6)
    · simp [tb_z]
    · simp [tb_m1 i hi]
theorem wv_i {w i : Nat} (hi : i < 64) : (64 * w + i) / 64 = w ∧ (64 * w + i) % 64 = i := by omega
theorem told_dg (v a : Nat) (ha : a < 6) : told (dg v a) true = v.testBit (2 * (5 - a)) ∧ told (dg v a) false = v.testBit (2 * (5 - a) + 1) := by
  have h1 := nat_bit v (2 * (5 - a))
  have h2 := nat_bit v (2 * (5 - a) + 1)
  have e1 : dg v a % 2 = v / 2 ^ (2 * (5 - a)) % 2 := by unfold dg; omega
  have e2 : dg v a / 2 % 2 = v / 2 ^ (2 * (5 - a) + 1) % 2 := by
    unfold dg
    rw [Nat.pow_succ, ← Nat.div_div_eq_div_mul]
    omega
  constructor
  · unfold told
    rw [if_pos rfl, e1, h1]
    cases v.testBit (2 * (5 - a)) <;> decide
  · unfold told
    rw [if_neg (by decide), e2, h2]
    cases v.testBit (2 * (5 - a) + 1) <;> decide
theorem pk_b (x y : Int64) {v i : Nat} (hv : v < 4) (hi : i < 64) : tb (pkL x y v) i = decide (b2n (tb x i) + 2 * b2n (tb y i) = v) := by
  unfold pkL
  rw [tb_and]
  have h1 : tb (if told v true = true then x else x ^^^ (-1)) i = (tb x i == told v true) := by
    cases q : told v true
    · rw [if_neg (by decide), tb_not x hi]; cases tb x i <;> rfl
    · simp
  have h2 : tb (if told v false = true then y else y ^^^ (-1)) i = (tb y i == told v false) := by
    cases q : told v false
    · rw [if_neg (by decide), tb_not y hi]; cases tb y i <;> rfl
    · simp
  rw [h1, h2]
  have key : ∀ v, v < 4 → ∀ a b : Bool, ((a == told v true) && (b == told v false)) = decide (b2n a + 2 * b2n b = v) := by decide
  exact key v hv _ _
