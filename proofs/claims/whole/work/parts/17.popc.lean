/-! the count of the bits of a word, as the JDK counts it -/
theorem and_low {a c x y : Nat} (ha : a < 256) (hx : x < 256) : (a + 256 * c) &&& (x + 256 * y) = (a &&& x) + 256 * (c &&& y) := by
  have h1 : ((a + 256 * c) &&& (x + 256 * y)) % 2 ^ 8 = (a + 256 * c) % 2 ^ 8 &&& (x + 256 * y) % 2 ^ 8 := Nat.and_mod_two_pow
  have h2 : ((a + 256 * c) &&& (x + 256 * y)) / 2 ^ 8 = (a + 256 * c) / 2 ^ 8 &&& (x + 256 * y) / 2 ^ 8 := Nat.and_div_two_pow
  have e1 : (a + 256 * c) % 2 ^ 8 = a := by omega
  have e2 : (x + 256 * y) % 2 ^ 8 = x := by omega
  have e3 : (a + 256 * c) / 2 ^ 8 = c := by omega
  have e4 : (x + 256 * y) / 2 ^ 8 = y := by omega
  rw [e1, e2] at h1
  rw [e3, e4] at h2
  omega
def mkM (m : Nat) : Nat → Nat
  | 0 => 0
  | k + 1 => m + 256 * mkM m k
def g1N (k n : Nat) : Nat := n - (n / 2 &&& mkM 85 k)
def g2N (k n : Nat) : Nat := (g1N k n &&& mkM 51 k) + (g1N k n / 4 &&& mkM 51 k)
def g3N (k n : Nat) : Nat := (g2N k n + g2N k n / 16) &&& mkM 15 k
def s1N (b : Nat) : Nat := b - (b / 2 &&& 85)
def s2N (b : Nat) : Nat := (s1N b &&& 51) + (s1N b / 4 &&& 51)
def s3N (b : Nat) : Nat := (s2N b + s2N b / 16) &&& 15
theorem sw1 : ∀ b, b < 256 → ∀ t, t < 2 → (b / 2 + 128 * t) &&& 85 = b / 2 &&& 85 := by decide +kernel
theorem sw2 : ∀ b, b < 256 → ∀ t, t < 4 → (s1N b / 4 + 64 * t) &&& 51 = s1N b / 4 &&& 51 := by decide +kernel
theorem sw3 : ∀ b, b < 256 → ∀ t, t < 5 → (s2N b + s2N b / 16 + 16 * t < 256 ∧ (s2N b + s2N b / 16 + 16 * t) &&& 15 = s3N b) := by decide +kernel
theorem sw4 : ∀ b, b < 256 → s1N b < 256 ∧ s2N b < 256 ∧ s2N b % 16 ≤ 4 ∧ b / 2 &&& 85 ≤ b := by decide +kernel
theorem g1_s {k b m : Nat} (hb : b < 256) : g1N (k + 1) (b + 256 * m) = s1N b + 256 * g1N k m := by
  unfold g1N
  have e : (b + 256 * m) / 2 = (b / 2 + 128 * (m % 2)) + 256 * (m / 2) := by omega
  rw [e]
  show b + 256 * m - (_ &&& (85 + 256 * mkM 85 k)) = _
  rw [and_low (by omega) (by decide), sw1 b hb (m % 2) (by omega)]
  have h1 := (sw4 b hb).2.2.2
  have h2 : m / 2 &&& mkM 85 k ≤ m := Nat.le_trans Nat.and_le_left (Nat.div_le_self _ _)
  unfold s1N
  omega
theorem g2_s {k b m : Nat} (hb : b < 256) : g2N (k + 1) (b + 256 * m) = s2N b + 256 * g2N k m := by
  unfold g2N
  rw [g1_s hb]
  have h1 := (sw4 b hb).1
  have e : (s1N b + 256 * g1N k m) / 4 = (s1N b / 4 + 64 * (g1N k m % 4)) + 256 * (g1N k m / 4) := by omega
  rw [e]
  show (_ &&& (51 + 256 * mkM 51 k)) + (_ &&& (51 + 256 * mkM 51 k)) = _
  rw [and_low h1 (by decide), and_low (by omega) (by decide), sw2 b hb (g1N k m % 4) (by omega)]
  unfold s2N
  omega
theorem g2_4 : ∀ (k m : Nat), m < 256 ^ k → g2N k m % 16 ≤ 4
  | 0, m, h => by
    have : m = 0 := by rw [Nat.pow_zero] at h; omega
    subst this
    decide
  | k + 1, m, h => by
    have e : m = m % 256 + 256 * (m / 256) := by omega
    rw [e, g2_s (Nat.mod_lt _ (by decide))]
    have := (sw4 (m % 256) (Nat.mod_lt _ (by decide))).2.2.1
    omega
theorem g3_s {k b m : Nat} (hb : b < 256) (hm : m < 256 ^ k) : g3N (k + 1) (b + 256 * m) = s3N b + 256 * g3N k m := by
  unfold g3N
  rw [g2_s hb]
  have h4 := g2_4 k m hm
  obtain ⟨h5, h6⟩ := sw3 b hb (g2N k m % 16) (by omega)
  have h7 := (sw4 b hb).2.1
  have e : s2N b + 256 * g2N k m + (s2N b + 256 * g2N k m) / 16 = (s2N b + s2N b / 16 + 16 * (g2N k m % 16)) + 256 * (g2N k m + g2N k m / 16) := by omega
  rw [e]
  show _ &&& (15 + 256 * mkM 15 k) = _
  rw [and_low h5 (by decide), h6]
theorem s3_ct : ∀ b, b < 256 → s3N b = fb_ct (fun i => b.testBit i) 8 ∧ s3N b ≤ 8 := by decide +kernel
theorem ct_byte (n k : Nat) : fb_ct (fun i => n.testBit i) (8 + k) = s3N (n % 256) + fb_ct (fun i => (n / 256).testBit i) k := by
  rw [fb_ct_split, (s3_ct (n % 256) (Nat.mod_lt _ (by decide))).1]
  congr 1
  · refine fb_ct_cong (fun i hi => ?_)
    have := Nat.testBit_mod_two_pow n 8 i
    rw [show (2 : Nat) ^ 8 = 256 from rfl] at this
    rw [this]
    simp [hi]
  · refine fb_ct_cong (fun i hi => ?_)
    have := Nat.testBit_div_two_pow (n := 8) n i
    rw [show (2 : Nat) ^ 8 = 256 from rfl] at this
    rw [this, Nat.add_comm i 8]
theorem pop_nat {n n3 n4 n5 : Nat} (hn : n < 2 ^ 64) (h3 : n3 = g3N 8 n) (h4 : n4 = n3 + n3 / 256) (h5 : n5 = n4 + n4 / 65536) : (n5 + n5 / 4294967296) % 128 = fb_ct (fun i => n.testBit i) 64 ∧ n3 < 2 ^ 60 := by
  have st : ∀ (k m : Nat), m < 256 ^ (k + 1) → g3N (k + 1) m = s3N (m % 256) + 256 * g3N k (m / 256) := fun k m hm => by
    have h1 := g3_s (k := k) (b := m % 256) (m := m / 256) (Nat.mod_lt _ (by decide)) (by rw [Nat.pow_succ] at hm; omega)
    rw [show m % 256 + 256 * (m / 256) = m by omega] at h1
    exact h1
  have b : ∀ m, s3N (m % 256) ≤ 8 := fun m => (s3_ct (m % 256) (Nat.mod_lt _ (by decide))).2
  obtain ⟨m1, e1⟩ : ∃ z, z = n / 256 := ⟨_, rfl⟩
  obtain ⟨m2, e2⟩ : ∃ z, z = m1 / 256 := ⟨_, rfl⟩
  obtain ⟨m3, e3⟩ : ∃ z, z = m2 / 256 := ⟨_, rfl⟩
  obtain ⟨m4, e4⟩ : ∃ z, z = m3 / 256 := ⟨_, rfl⟩
  obtain ⟨m5, e5⟩ : ∃ z, z = m4 / 256 := ⟨_, rfl⟩
  obtain ⟨m6, e6⟩ : ∃ z, z = m5 / 256 := ⟨_, rfl⟩
  obtain ⟨m7, e7⟩ : ∃ z, z = m6 / 256 := ⟨_, rfl⟩
  have c0 := ct_byte n 56
  have c1 := ct_byte m1 48
  have c2 := ct_byte m2 40
  have c3 := ct_byte m3 32
  have c4 := ct_byte m4 24
  have c5 := ct_byte m5 16
  have c6 := ct_byte m6 8
  have c7 := ct_byte m7 0
  rw [← e1] at c0; rw [← e2] at c1; rw [← e3] at c2; rw [← e4] at c3; rw [← e5] at c4; rw [← e6] at c5; rw [← e7] at c6
  simp only [Nat.reduceAdd] at c0 c1 c2 c3 c4 c5 c6 c7
  have z : fb_ct (fun i => (m7 / 256).testBit i) 0 = 0 := rfl
  have g0 := st 7 n (by simpa using hn)
  have g1 := st 6 m1 (by omega)
  have g2 := st 5 m2 (by omega)
  have g3 := st 4 m3 (by omega)
  have g4 := st 3 m4 (by omega)
  have g5 := st 2 m5 (by omega)
  have g6 := st 1 m6 (by omega)
  have g7 := st 0 m7 (by omega)
  rw [← e1] at g0; rw [← e2] at g1; rw [← e3] at g2; rw [← e4] at g3; rw [← e5] at g4; rw [← e6] at g5; rw [← e7] at g6
  have gz : g3N 0 (m7 / 256) = 0 := by show _ &&& 0 = 0; exact Nat.and_zero _
  have b0 := b n
  have b1 := b m1
  have b2 := b m2
  have b3 := b m3
  have b4 := b m4
  have b5 := b m5
  have b6 := b m6
  have b7 := b m7
  generalize s3N (n % 256) = p0 at *
  generalize s3N (m1 % 256) = p1 at *
  generalize s3N (m2 % 256) = p2 at *
  generalize s3N (m3 % 256) = p3 at *
  generalize s3N (m4 % 256) = p4 at *
  generalize s3N (m5 % 256) = p5 at *
  generalize s3N (m6 % 256) = p6 at *
  generalize s3N (m7 % 256) = p7 at *
  rw [gz] at g7
  rw [g7] at g6; rw [g6] at g5; rw [g5] at g4; rw [g4] at g3; rw [g3] at g2; rw [g2] at g1; rw [g1] at g0
  rw [← h3] at g0
  rw [c0, c1, c2, c3, c4, c5, c6, c7, z]
  clear c0 c1 c2 c3 c4 c5 c6 c7 z g1 g2 g3 g4 g5 g6 g7 gz e1 e2 e3 e4 e5 e6 e7 st b h3
  have e4 : n4 = (p0 + p1) + 256 * ((p1 + p2) + 256 * ((p2 + p3) + 256 * ((p3 + p4) + 256 * ((p4 + p5) + 256 * ((p5 + p6) + 256 * ((p6 + p7) + 256 * p7)))))) := by omega
  have e41 : n4 / 65536 = (p2 + p3) + 256 * ((p3 + p4) + 256 * ((p4 + p5) + 256 * ((p5 + p6) + 256 * ((p6 + p7) + 256 * (p7))))) := by omega
  have e5 : n5 = (p0 + p1 + p2 + p3) + 256 * ((p1 + p2 + p3 + p4) + 256 * ((p2 + p3 + p4 + p5) + 256 * ((p3 + p4 + p5 + p6) + 256 * ((p4 + p5 + p6 + p7) + 256 * ((p5 + p6 + p7) + 256 * ((p6 + p7) + 256 * (p7))))))) := by rw [h5, e41, e4]; omega
  have e51 : n5 / 4294967296 = (p4 + p5 + p6 + p7) + 256 * ((p5 + p6 + p7) + 256 * ((p6 + p7) + 256 * (p7))) := by omega
  constructor
  · rw [e51, e5]
    omega
  · omega
/-- Long.bitCount, its six steps -/
theorem bcL {x y1 y2 y3 y4 y5 y6 : Int64} (e1 : y1 = x - ((x.toUInt64 >>> ((nI 1).toInt64.toUInt64 &&& Int64.toUInt64 63)).toInt64 &&& 6148914691236517205)) (e2 : y2 = (y1 &&& 3689348814741910323) + ((y1.toUInt64 >>> ((nI 2).toInt64.toUInt64 &&& Int64.toUInt64 63)).toInt64 &&& 3689348814741910323)) (e3 : y3 = (y2 + (y2.toUInt64 >>> ((nI 4).toInt64.toUInt64 &&& Int64.toUInt64 63)).toInt64) &&& 1085102592571150095)
    (e4 : y4 = y3 + (y3.toUInt64 >>> ((nI 8).toInt64.toUInt64 &&& Int64.toUInt64 63)).toInt64) (e5 : y5 = y4 + (y4.toUInt64 >>> ((nI 16).toInt64.toUInt64 &&& Int64.toUInt64 63)).toInt64) (e6 : y6 = y5 + (y5.toUInt64 >>> ((nI 32).toInt64.toUInt64 &&& Int64.toUInt64 63)).toInt64) : y6.toInt32 &&& nI 127 = nI (pcN x) := by
  obtain ⟨n, hn, rfl⟩ := wb_of x
  have m5 : (6148914691236517205 : Int64) = lN (mkM 85 8) := by decide
  have m3 : (3689348814741910323 : Int64) = lN (mkM 51 8) := by decide
  have mf : (1085102592571150095 : Int64) = lN (mkM 15 8) := by decide
  have t1 : y1 = lN (g1N 8 n) := by
    rw [e1, wb_shr hn (by decide), m5, fb_andL, lN_sub (Nat.le_trans Nat.and_le_left (Nat.div_le_self _ _))]
    rfl
  have l1 : g1N 8 n < 2 ^ 64 := Nat.lt_of_le_of_lt (Nat.sub_le _ _) hn
  have t2 : y2 = lN (g2N 8 n) := by
    rw [e2, t1, wb_shr l1 (by decide), m3, fb_andL, fb_andL, lN_add]
    rfl
  have l2 : g2N 8 n < 2 ^ 63 := by
    have h1 : g1N 8 n &&& mkM 51 8 ≤ mkM 51 8 := Nat.and_le_right
    have h2 : g1N 8 n / 4 &&& mkM 51 8 ≤ mkM 51 8 := Nat.and_le_right
    have h3 : mkM 51 8 = 3689348814741910323 := by decide
    unfold g2N
    omega
  have t3 : y3 = lN (g3N 8 n) := by
    rw [e3, t2, wb_shr (by omega) (by decide), lN_add, mf, fb_andL]
    rfl
  obtain ⟨hp, l3⟩ := pop_nat (n4 := g3N 8 n + g3N 8 n / 256) (n5 := g3N 8 n + g3N 8 n / 256 + (g3N 8 n + g3N 8 n / 256) / 65536) hn rfl rfl rfl
  have t4 : y4 = lN (g3N 8 n + g3N 8 n / 256) := by
    rw [e4, t3, wb_shr (by omega) (by decide), lN_add]
  have t5 : y5 = lN (g3N 8 n + g3N 8 n / 256 + (g3N 8 n + g3N 8 n / 256) / 65536) := by
    rw [e5, t4, wb_shr (by omega) (by decide), lN_add]
  have t6 : y6 = lN (g3N 8 n + g3N 8 n / 256 + (g3N 8 n + g3N 8 n / 256) / 65536 + (g3N 8 n + g3N 8 n / 256 + (g3N 8 n + g3N 8 n / 256) / 65536) / 4294967296) := by
    rw [e6, t5, wb_shr (by omega) (by decide), lN_add]
  rw [t6, lN_i]
  have h7 := fa_mask (g3N 8 n + g3N 8 n / 256 + (g3N 8 n + g3N 8 n / 256) / 65536 + (g3N 8 n + g3N 8 n / 256 + (g3N 8 n + g3N 8 n / 256) / 65536) / 4294967296) 7
  rw [show (2 : Nat) ^ 7 - 1 = 127 from rfl, show (2 : Nat) ^ 7 = 128 from rfl, hp] at h7
  rw [h7]
  unfold pcN
  congr 1
  exact fb_ct_cong (fun i hi => (tb_lN hi).symm)
