/-! depends -/
theorem lb_lg : ∀ g, g < 16 → 1 ≤ g → lbN (nI g).toInt64 < 4 ∧ g.testBit (lbN (nI g).toInt64) = true ∧ ∀ j, j < 4 → j < lbN (nI g).toInt64 → g.testBit j = false := by decide +kernel
/-- one digit changed from 0 to x -/
theorem dg_add {v a x : Nat} (hv : v < 4096) (h : dg v a = 0) (hx : x < 4) (ha : a < 6) {b : Nat} (hb : b < 6) : dg (v + x * 2 ^ (2 * (5 - a))) b = if b = a then x else dg v b := by
  unfold dg at *
  rcases (show a = 0 ∨ a = 1 ∨ a = 2 ∨ a = 3 ∨ a = 4 ∨ a = 5 by omega) with rfl | rfl | rfl | rfl | rfl | rfl <;>
    rcases (show b = 0 ∨ b = 1 ∨ b = 2 ∨ b = 3 ∨ b = 4 ∨ b = 5 by omega) with rfl | rfl | rfl | rfl | rfl | rfl <;> simp at h ⊢ <;> omega
theorem cn_all (lg v : Nat) : ∀ k, cnS lg v k = true ↔ ∀ b, b < k → lg.testBit (dg v b) = true
  | 0 => by simp [cnS]
  | k + 1 => by
    show (cnS lg v k && lg.testBit (dg v k)) = true ↔ _
    rw [Bool.and_eq_true, cn_all lg v k]
    constructor
    · rintro ⟨h1, h2⟩ b hb
      rcases Nat.lt_or_ge b k with z | z
      · exact h1 b z
      · have : b = k := by omega
        subst this
        exact h2
    · intro h
      exact ⟨fun b hb => h b (by omega), h k (Nat.lt_succ_self k)⟩
theorem cn_add {lg v a x y : Nat} (hv : v < 4096) (h : dg v a = 0) (hx : x < 4) (hy : y < 4) (ha : a < 6) (hc : cnS lg (v + x * 2 ^ (2 * (5 - a))) 6 = true) (hl : lg.testBit y = true) : cnS lg (v + y * 2 ^ (2 * (5 - a))) 6 = true := by
  rw [cn_all] at hc ⊢
  intro b hb
  have := hc b hb
  rw [dg_add hv h hx ha hb] at this
  rw [dg_add hv h hy ha hb]
  by_cases z : b = a
  · rw [if_pos z]; exact hl
  · rw [if_neg z] at this ⊢
    exact this
theorem cn_dig {lg v a x : Nat} (hv : v < 4096) (h : dg v a = 0) (hx : x < 4) (ha : a < 6) (hc : cnS lg (v + x * 2 ^ (2 * (5 - a))) 6 = true) : lg.testBit x = true := by
  have := (cn_all lg _ 6).mp hc a ha
  rw [dg_add hv h hx ha ha, if_pos rfl] at this
  exact this
theorem fd_bit (c : Nat → Bool) (e : Nat → Nat) (v p t : Nat) : ∀ N, (fdS c e v p N).testBit t = true ↔ ∃ x, x < N ∧ c (v + x * p) = true ∧ e (v + x * p) = t
  | 0 => by simp [fdS]
  | N + 1 => by
    have ih := fd_bit c e v p t N
    unfold fdS
    by_cases q : c (v + N * p) = true
    · rw [if_pos q, Nat.testBit_or, Nat.testBit_two_pow, Bool.or_eq_true, ih]
      constructor
      · rintro (⟨x, h1, h2⟩ | h1)
        · exact ⟨x, by omega, h2⟩
        · exact ⟨N, by omega, q, of_decide_eq_true h1⟩
      · rintro ⟨x, h1, h2, h3⟩
        rcases Nat.lt_or_ge x N with z | z
        · exact Or.inl ⟨x, z, h2, h3⟩
        · have : x = N := by omega
          subst this
          exact Or.inr (decide_eq_true h3)
    · rw [if_neg q, ih]
      constructor
      · rintro ⟨x, h1, h2⟩
        exact ⟨x, by omega, h2⟩
      · rintro ⟨x, h1, h2, h3⟩
        rcases Nat.lt_or_ge x N with z | z
        · exact ⟨x, z, h2, h3⟩
        · have : x = N := by omega
          subst this
          exact absurd h2 q
theorem two_bits : ∀ m, m < 16 → (1 < fb_ct (fun i => Nat.testBit m i) 6 ↔ ∃ i, i < 4 ∧ ∃ j, j < 4 ∧ ¬ i = j ∧ m.testBit i = true ∧ m.testBit j = true) := by decide +kernel
theorem dp_iff (q : Nat → Bool) : ∀ N, dpS q N = true ↔ ∃ v, v < N ∧ q v = true
  | 0 => by simp [dpS]
  | N + 1 => by
    show (dpS q N || q N) = true ↔ _
    rw [Bool.or_eq_true, dp_iff q N]
    constructor
    · rintro (⟨v, h1, h2⟩ | h)
      · exact ⟨v, by omega, h2⟩
      · exact ⟨N, by omega, h⟩
    · rintro ⟨v, h1, h2⟩
      rcases Nat.lt_or_ge v N with z | z
      · exact Or.inl ⟨v, z, h2⟩
      · have : v = N := by omega
        subst this
        exact Or.inr h2
theorem ffO_isS {p : Nat → Bool} {k : Nat} : (ffO p k).isSome = true ↔ ∃ j, j < k ∧ p j = true := by
  unfold ffO
  by_cases q : fa_first p k < k
  · rw [if_pos q]
    simp only [Option.isSome_some, true_iff]
    exact ⟨_, q, fa_first_yes p k q⟩
  · rw [if_neg q]
    simp only [Option.isSome_none, Bool.false_eq_true, false_iff]
    rintro ⟨j, hj, z⟩
    rw [fa_first_no p k j (by omega)] at z
    cases z
section RD
variable {n : Nat} {kd fi se : Nat → Nat} {sd : Nat → Bool} {ts fs : Nat → Int64} {tr sy rp : Nat → Nat} {on : Nat → Bool} {lt : Nat} {ru : Nat → Option Nat} {lg : Nat} {lp : Int64}
/-- where one digit is changed, in words -/
theorem step_w {w i a u v : Nat} (hw : w < 64) (hi : i < 64) (ha : a < 6) (hd : dg (64 * w + i) a = u) (huv : u ≤ v) (hv : v < 4) : w + (v - u) * 2 ^ (2 * (5 - a)) / 64 < 64 ∧ i + (v - u) * 2 ^ (2 * (5 - a)) % 64 < 64 := by
  unfold dg at hd
  rcases (show a = 0 ∨ a = 1 ∨ a = 2 ∨ a = 3 ∨ a = 4 ∨ a = 5 by omega) with rfl | rfl | rfl | rfl | rfl | rfl <;> simp at hd ⊢ <;> omega
theorem sw_b (h : REL n kd fi se sd ts fs tr sy rp lt ru lg lp) {w i a u : Nat} (hw : w < 64) (hi : i < 64) (ha : a < 6) (hu : u < 4) : tb (lwL lp w &&& pkL (vbL (2 * (5 - a)) w) (vbL (2 * (5 - a) + 1) w) u) i = (cnS lg (64 * w + i) 6 && decide (dg (64 * w + i) a = u)) := by
  rw [tb_and, lw_wi h hw hi, pk_b _ _ hu hi, vb_b (by omega) hw hi, vb_b (by omega) hw hi]
  have e := told_n (dg (64 * w + i) a) (dg_lt _ _)
  rw [(told_dg (64 * w + i) a ha).1, (told_dg (64 * w + i) a ha).2] at e
  rw [← e]
theorem ch_iff (h : REL n kd fi se sd ts fs tr sy rp lt ru lg lp) {f a u v : Nat} (hf : f < n) (ha : a < 6) (huv : u ≤ v) (hv : v < 4) : chB ts fs lp f a u v = true ↔ ∃ x, x < 4096 ∧ cnS lg x 6 = true ∧ dg x a = u ∧ ¬ wv kd fi se f x = wv kd fi se f (x + (v - u) * 2 ^ (2 * (5 - a))) := by
  unfold chB
  rw [ffO_isS]
  constructor
  · rintro ⟨w, hw, q⟩
    obtain ⟨q1, q2, q3⟩ := of_decide_eq_true q
    obtain ⟨i, hi, z⟩ := tb_n0.mp q3
    rw [tb_and, Bool.and_eq_true] at z
    obtain ⟨z1, z2⟩ := z
    have z2' : tb (lwL lp w &&& pkL (vbL (2 * (5 - a)) w) (vbL (2 * (5 - a) + 1) w) u) i = true := z2
    rw [sw_b h hw hi ha (by omega), Bool.and_eq_true] at z2'
    have hd := of_decide_eq_true z2'.2
    have hs := step_w hw hi ha hd huv hv
    rw [df_b h hf hf hw hs.1 hi hs.2] at z1
    refine ⟨64 * w + i, by omega, z2'.1, hd, ?_⟩
    have e : 64 * (w + (v - u) * 2 ^ (2 * (5 - a)) / 64) + (i + (v - u) * 2 ^ (2 * (5 - a)) % 64) = 64 * w + i + (v - u) * 2 ^ (2 * (5 - a)) := by omega
    rw [e] at z1
    exact of_decide_eq_true z1
  · rintro ⟨x, hx, hc, hd, hne⟩
    have e0 : 64 * (x / 64) + x % 64 = x := by omega
    have hw : x / 64 < 64 := by omega
    have hi : x % 64 < 64 := by omega
    have hd' : dg (64 * (x / 64) + x % 64) a = u := by rw [e0]; exact hd
    have hs := step_w hw hi ha hd' huv hv
    have hsb := sw_b h hw hi ha (u := u) (by omega)
    rw [e0, hc, decide_eq_true hd] at hsb
    refine ⟨x / 64, hw, decide_eq_true ⟨?_, hs.1, ?_⟩⟩
    · exact tb_n0.mpr ⟨x % 64, hi, hsb⟩
    · refine tb_n0.mpr ⟨x % 64, hi, ?_⟩
      rw [tb_and, df_b h hf hf hw hs.1 hi hs.2]
      have e : 64 * (x / 64 + (v - u) * 2 ^ (2 * (5 - a)) / 64) + (x % 64 + (v - u) * 2 ^ (2 * (5 - a)) % 64) = x + (v - u) * 2 ^ (2 * (5 - a)) := by omega
      rw [e, e0, decide_eq_true hne]
      show (true && tb (lwL lp (x / 64) &&& pkL (vbL (2 * (5 - a)) (x / 64)) (vbL (2 * (5 - a) + 1) (x / 64)) u) (x % 64)) = true
      rw [hsb]
      rfl
theorem dg_sub {x a u : Nat} (hx : x < 4096) (ha : a < 6) (hd : dg x a = u) : u * 2 ^ (2 * (5 - a)) ≤ x ∧ dg (x - u * 2 ^ (2 * (5 - a))) a = 0 := by
  unfold dg at *
  rcases (show a = 0 ∨ a = 1 ∨ a = 2 ∨ a = 3 ∨ a = 4 ∨ a = 5 by omega) with rfl | rfl | rfl | rfl | rfl | rfl <;> simp at hd ⊢ <;> omega
theorem depends_eq (h : REL n kd fi se sd ts fs tr sy rp lt ru lg lp) {f a : Nat} (hf : f < n) (ha : a < 6) :
    (ffO (fun v => decide (lbN (nI lg).toInt64 < v) && (lg.testBit v && chB ts fs lp f a (lbN (nI lg).toInt64) v)) 4).isSome = dpS (fun v => decide (dg v a = 0) && decide (1 < fb_ct (fun i => Nat.testBit (fdS (fun v => cnS lg v 6) (fun v => wv kd fi se f v) v (2 ^ (2 * (5 - a))) 4) i) 6)) 4096 := by
  obtain ⟨hu4, hub, hul⟩ := lb_lg lg h.1.2.2.2.2.1 h.2.1
  generalize lbN (nI lg).toInt64 = u at hu4 hub hul ⊢
  have hwv : ∀ v, wv kd fi se f v < 4 := fun v => wv_lt h.1.2.2.2.2.2.2 v f hf
  rw [Bool.eq_iff_iff, ffO_isS, dp_iff]
  constructor
  · rintro ⟨v, hv, q⟩
    rw [Bool.and_eq_true, Bool.and_eq_true] at q
    obtain ⟨q1, q2, q3⟩ := q
    have huv : u < v := of_decide_eq_true q1
    obtain ⟨x, hx, hc, hd, hne⟩ := (ch_iff h hf ha (Nat.le_of_lt huv) hv).mp q3
    obtain ⟨hle, h0⟩ := dg_sub hx ha hd
    obtain ⟨y, hy⟩ : ∃ y, y = x - u * 2 ^ (2 * (5 - a)) := ⟨_, rfl⟩
    rw [← hy] at h0
    have ex : y + u * 2 ^ (2 * (5 - a)) = x := by omega
    have ev : y + v * 2 ^ (2 * (5 - a)) = x + (v - u) * 2 ^ (2 * (5 - a)) := by
      have : v * 2 ^ (2 * (5 - a)) = u * 2 ^ (2 * (5 - a)) + (v - u) * 2 ^ (2 * (5 - a)) := by rw [← Nat.add_mul, show u + (v - u) = v by omega]
      omega
    have hy4 : y < 4096 := by omega
    have hcv : cnS lg (y + v * 2 ^ (2 * (5 - a))) 6 = true := cn_add hy4 h0 (x := u) hu4 hv ha (by rw [ex]; exact hc) q2
    refine ⟨y, hy4, ?_⟩
    rw [Bool.and_eq_true]
    refine ⟨decide_eq_true h0, decide_eq_true ((two_bits _ (fdS_lt hwv _ _ 4)).mpr ?_)⟩
    refine ⟨wv kd fi se f x, hwv _, wv kd fi se f (x + (v - u) * 2 ^ (2 * (5 - a))), hwv _, hne, ?_, ?_⟩
    · exact (fd_bit _ _ _ _ _ 4).mpr ⟨u, hu4, by show cnS lg _ 6 = true; rw [ex]; exact hc, by show wv kd fi se f _ = _; rw [ex]⟩
    · exact (fd_bit _ _ _ _ _ 4).mpr ⟨v, hv, hcv, by show wv kd fi se f _ = _; rw [ev]⟩
  · rintro ⟨y, hy, q⟩
    rw [Bool.and_eq_true] at q
    have h0 := of_decide_eq_true q.1
    obtain ⟨i, hi, j, hj, hij, b1, b2⟩ := (two_bits _ (fdS_lt hwv _ _ 4)).mp (of_decide_eq_true q.2)
    obtain ⟨x1, hx1, c1, e1⟩ := (fd_bit _ _ _ _ _ 4).mp b1
    obtain ⟨x2, hx2, c2, e2⟩ := (fd_bit _ _ _ _ _ 4).mp b2
    have c1' : cnS lg (y + x1 * 2 ^ (2 * (5 - a))) 6 = true := c1
    have c2' : cnS lg (y + x2 * 2 ^ (2 * (5 - a))) 6 = true := c2
    have e1' : wv kd fi se f (y + x1 * 2 ^ (2 * (5 - a))) = i := e1
    have e2' : wv kd fi se f (y + x2 * 2 ^ (2 * (5 - a))) = j := e2
    have l1 := cn_dig hy h0 hx1 ha c1'
    have l2 := cn_dig hy h0 hx2 ha c2'
    have cu : cnS lg (y + u * 2 ^ (2 * (5 - a))) 6 = true := cn_add hy h0 hx1 hu4 ha c1' hub
    have hux := dg0_lt hy h0 hu4 ha
    have hdu : dg (y + u * 2 ^ (2 * (5 - a))) a = u := by rw [dg_add hy h0 hu4 ha ha, if_pos rfl]
    have fin : ∀ x, x < 4 → lg.testBit x = true → ¬ wv kd fi se f (y + x * 2 ^ (2 * (5 - a))) = wv kd fi se f (y + u * 2 ^ (2 * (5 - a))) → ∃ v, v < 4 ∧ (decide (u < v) && (lg.testBit v && chB ts fs lp f a u v)) = true := by
      intro x hx lx ne
      have hxu : u < x := by
        rcases Nat.lt_trichotomy x u with z | z | z
        · rw [hul x hx z] at lx; cases lx
        · rw [z] at ne; exact absurd rfl ne
        · exact z
      refine ⟨x, hx, ?_⟩
      have ev : y + u * 2 ^ (2 * (5 - a)) + (x - u) * 2 ^ (2 * (5 - a)) = y + x * 2 ^ (2 * (5 - a)) := by
        have : x * 2 ^ (2 * (5 - a)) = u * 2 ^ (2 * (5 - a)) + (x - u) * 2 ^ (2 * (5 - a)) := by rw [← Nat.add_mul, show u + (x - u) = x by omega]
        omega
      rw [decide_eq_true hxu, lx, (ch_iff h hf ha (Nat.le_of_lt hxu) hx).mpr ⟨y + u * 2 ^ (2 * (5 - a)), hux, cu, hdu, fun z => ne (by rw [z, ev])⟩]
      rfl
    by_cases z : wv kd fi se f (y + x1 * 2 ^ (2 * (5 - a))) = wv kd fi se f (y + u * 2 ^ (2 * (5 - a)))
    · exact fin x2 hx2 l2 (fun z2 => hij (by rw [← e1', ← e2', z, z2]))
    · exact fin x1 hx1 l1 z
end RD
