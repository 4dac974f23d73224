/-! the class's answers are the reference's -/
section RS
variable {n : Nat} {kd fi se : Nat → Nat} {sd : Nat → Bool} {ts fs : Nat → Int64} {tr sy rp : Nat → Nat} {on : Nat → Bool} {lt : Nat} {ru : Nat → Option Nat} {lg : Nat} {lp : Int64}
theorem ff_cong {p q : Nat → Bool} {k : Nat} (h : ∀ j, j < k → p j = q j) : fa_first p k = fa_first q k := by
  rcases Nat.lt_or_ge (fa_first p k) k with z | z
  · have h1 := fa_first_yes p k z
    refine (ff_at z (by rw [← h _ z]; exact h1) (fun j hj => ?_)).symm
    rw [← h j (by omega)]
    exact fa_first_no p k j hj
  · have e : fa_first p k = k := Nat.le_antisymm (fa_first_le p k) z
    rw [e]
    exact (ff_none (fun j hj => by rw [← h j hj]; exact fa_first_no p k j (by omega))).symm
theorem ffO_cong {p q : Nat → Bool} {k : Nat} (h : ∀ j, j < k → p j = q j) : ffO p k = ffO q k := by
  unfold ffO
  rw [ff_cong h]
theorem rd_eq (h : REL n kd fi se sd ts fs tr sy rp lt ru lg lp) (w : Nat) : fa_first (fun r => decide (itS (lkN ts fs) ru (gsS rp w 6) (r + 1) = itS (lkN ts fs) ru (gsS rp w 6) r)) 12 = fa_first (fun r => decide (mIt sy (wv kd fi se) ru w (r + 1) = mIt sy (wv kd fi se) ru w r)) 12 :=
  ff_cong (fun j _ => by rw [it_eq h w, it_eq h w])
/-- from the last round on nothing changes -/
theorem mIt_last (h : REL n kd fi se sd ts fs tr sy rp lt ru lg lp) (w : Nat) {r : Nat} (hr : fa_first (fun r => decide (mIt sy (wv kd fi se) ru w (r + 1) = mIt sy (wv kd fi se) ru w r)) 12 ≤ r) : mIt sy (wv kd fi se) ru w r = mIt sy (wv kd fi se) ru w (fa_first (fun r => decide (mIt sy (wv kd fi se) ru w (r + 1) = mIt sy (wv kd fi se) ru w r)) 12) := by
  have y := fa_first_yes (fun r => decide (mIt sy (wv kd fi se) ru w (r + 1) = mIt sy (wv kd fi se) ru w r)) 12
  have le := fa_first_le (fun r => decide (mIt sy (wv kd fi se) ru w (r + 1) = mIt sy (wv kd fi se) ru w r)) 12
  generalize fa_first (fun r => decide (mIt sy (wv kd fi se) ru w (r + 1) = mIt sy (wv kd fi se) ru w r)) 12 = F at y le hr ⊢
  rcases Nat.lt_or_ge F 12 with z | z
  · have y1 := y z
    exact mIt_at (of_decide_eq_true y1) hr
  · have e : F = 12 := Nat.le_antisymm le z
    subst e
    exact mIt_at (mIt_end h w) hr
theorem since_eq (h : REL n kd fi se sd ts fs tr sy rp lt ru lg lp) (w a : Nat) (b : Bool) : ffO (fun r => told (dg (itS (lkN ts fs) ru (gsS rp w 6) r) a) b) 13 = ffO (fun r => told (dg (mIt sy (wv kd fi se) ru w r) a) b) (fa_first (fun r => decide (mIt sy (wv kd fi se) ru w (r + 1) = mIt sy (wv kd fi se) ru w r)) 12 + 1) := by
  have e : ffO (fun r => told (dg (itS (lkN ts fs) ru (gsS rp w 6) r) a) b) 13 = ffO (fun r => told (dg (mIt sy (wv kd fi se) ru w r) a) b) 13 := ffO_cong (fun j _ => by rw [it_eq h w])
  rw [e]
  have hl : ∀ r, fa_first (fun r => decide (mIt sy (wv kd fi se) ru w (r + 1) = mIt sy (wv kd fi se) ru w r)) 12 ≤ r → mIt sy (wv kd fi se) ru w r = mIt sy (wv kd fi se) ru w (fa_first (fun r => decide (mIt sy (wv kd fi se) ru w (r + 1) = mIt sy (wv kd fi se) ru w r)) 12) := fun r hr => mIt_last h w hr
  have hle := fa_first_le (fun r => decide (mIt sy (wv kd fi se) ru w (r + 1) = mIt sy (wv kd fi se) ru w r)) 12
  generalize fa_first (fun r => decide (mIt sy (wv kd fi se) ru w (r + 1) = mIt sy (wv kd fi se) ru w r)) 12 = L at hl hle ⊢
  cases q : ffO (fun r => told (dg (mIt sy (wv kd fi se) ru w r) a) b) (L + 1) with
  | some f =>
    have hf : f < L + 1 := by
      unfold ffO at q
      split at q
      · cases q; assumption
      · cases q
    have q2 : fa_first (fun r => told (dg (mIt sy (wv kd fi se) ru w r) a) b) (L + 1) = f := by
      unfold ffO at q
      split at q
      · exact Option.some.inj q
      · cases q
    have y1 := fa_first_yes (fun r => told (dg (mIt sy (wv kd fi se) ru w r) a) b) (L + 1) (by rw [q2]; exact hf)
    have y2 := fa_first_no (fun r => told (dg (mIt sy (wv kd fi se) ru w r) a) b) (L + 1)
    rw [q2] at y1 y2
    exact ffO_at (by omega) y1 y2
  | none =>
    have z : ∀ j, j < L + 1 → told (dg (mIt sy (wv kd fi se) ru w j) a) b = false := fun j hj => by
      unfold ffO at q
      split at q
      · cases q
      · rename_i z
        exact fa_first_no (fun r => told (dg (mIt sy (wv kd fi se) ru w r) a) b) (L + 1) j (by omega)
    refine ffO_none (fun j hj => ?_)
    rcases Nat.lt_or_ge j (L + 1) with z2 | z2
    · exact z j z2
    · show told (dg (mIt sy (wv kd fi se) ru w j) a) b = false
      rw [hl j (by omega)]
      exact z L (Nat.lt_succ_self L)
theorem sayers_eq (h : REL n kd fi se sd ts fs tr sy rp lt ru lg lp) {a : Nat} (ha : a < 6) (b : Bool) : ∀ k, k ≤ 6 → syS tr on lt (fun s => dg (rp s) a) b k = syS tr on lt (fun s => sy (6 * s + a)) b k
  | 0, _ => rfl
  | k + 1, hk => by
    unfold syS
    rw [sayers_eq h ha b k (by omega)]
    show (if (hdB tr on lt k && told (dg (rp k) a) b) = true then _ else _) = _
    rw [rp_dg h (by omega) ha]
theorem hs_bit (tr : Nat → Nat) (on : Nat → Bool) (lt a : Nat) : ∀ k, (hsS tr on lt k).testBit a = (decide (a < k) && hdB tr on lt a)
  | 0 => by simp [hsS]
  | k + 1 => by
    unfold hsS
    by_cases q : hdB tr on lt k = true
    · rw [if_pos q, Nat.testBit_or, hs_bit tr on lt a k, Nat.testBit_two_pow]
      rcases Nat.lt_trichotomy a k with z | z | z
      · simp [z, Nat.lt_succ_of_lt z, show ¬ k = a by omega]
      · subst z; simp [q]
      · simp [show ¬ a < k by omega, show ¬ a < k + 1 by omega, show ¬ k = a by omega]
    · rw [if_neg q, hs_bit tr on lt a k]
      rcases Nat.lt_trichotomy a k with z | z | z
      · simp [z, Nat.lt_succ_of_lt z]
      · subst z; simp [ts_nt q]
      · simp [show ¬ a < k by omega, show ¬ a < k + 1 by omega]
theorem matters_eq (h : REL n kd fi se sd ts fs tr sy rp lt ru lg lp) {a b : Nat} (ha : a < 6) :
    decide (dg (itS (lkN ts fs) ru (gsS rp (hsS tr on lt 6) 6) 12) b ≠ dg (itS (lkN ts fs) ru (gsS rp (hsS tr on lt 6 &&& (63 ^^^ 2 ^ a)) 6) 12) b) = (hdB tr on lt a && decide (dg (mIt sy (wv kd fi se) ru (hsS tr on lt 6) 12) b ≠ dg (mIt sy (wv kd fi se) ru (hsS tr on lt 6 &&& (63 ^^^ 2 ^ a)) 12) b)) := by
  rw [it_eq h, it_eq h]
  cases q : hdB tr on lt a
  · have e : hsS tr on lt 6 &&& (63 ^^^ 2 ^ a) = hsS tr on lt 6 := by
      apply Nat.eq_of_testBit_eq
      intro j
      rw [Nat.testBit_and, Nat.testBit_xor, Nat.testBit_two_pow, hs_bit]
      by_cases z : a = j
      · subst z; simp [q]
      · have e63 : (63 : Nat).testBit j = decide (j < 6) := Nat.testBit_two_pow_sub_one 6 j
        rw [e63]
        by_cases z2 : j < 6 <;> simp [z, z2]
    rw [e]
    simp
  · simp
theorem sl_eq {all : Nat} {cf cg : Nat → Nat} (h : ∀ s, s < 6 → tr s ≤ 100) (hc : ∀ k, cf (all &&& (63 ^^^ k)) = cg (all &&& (63 ^^^ k))) : ∀ k, (slF all tr cf k).1 = (slM all tr cg k).1 ∧ ((slM all tr cg k).1 = none → (slF all tr cf k).2 = 601) ∧ (¬ (slM all tr cg k).1 = none → (slF all tr cf k).2 = (slM all tr cg k).2)
  | 0 => ⟨rfl, fun _ => rfl, fun q => absurd rfl q⟩
  | k + 1 => by
    obtain ⟨i1, i2, i3⟩ := sl_eq h hc k
    have hk := trS_le h k 6 (Nat.le_refl 6)
    have hiff : trS tr k 6 < (slF all tr cf k).2 ↔ ((slM all tr cg k).1 = none ∨ trS tr k 6 < (slM all tr cg k).2) := by
      by_cases q : (slM all tr cg k).1 = none
      · rw [i2 q]
        exact ⟨fun _ => Or.inl q, fun _ => by omega⟩
      · rw [i3 q]
        exact ⟨fun z => Or.inr z, fun z => z.resolve_left q⟩
    unfold slF slM
    by_cases q : k &&& (63 ^^^ all) = 0 ∧ ((slM all tr cg k).1 = none ∨ trS tr k 6 < (slM all tr cg k).2) ∧ cg (all &&& (63 ^^^ k)) = 0
    · rw [if_pos q, if_pos ⟨q.1, hiff.mpr q.2.1, by rw [hc]; exact q.2.2⟩]
      exact ⟨rfl, (fun z => by cases z), fun _ => rfl⟩
    · rw [if_neg q, if_neg (fun z => q ⟨z.1, hiff.mp z.2.1, by rw [← hc]; exact z.2.2⟩)]
      exact ⟨i1, i2, i3⟩
theorem silence_eq (h : REL n kd fi se sd ts fs tr sy rp lt ru lg lp) (all : Nat) : (slF all tr (fun h => awS (itS (lkN ts fs) ru (gsS rp h 6) 12) 3 6) 64).1 = (slM all tr (fun h => awS (mIt sy (wv kd fi se) ru h 12) 3 6) 64).1 :=
  (sl_eq h.1.2.1 (fun k => by show awS _ 3 6 = awS _ 3 6; rw [it_eq h]) 64).1
theorem ct_cong {f g s t : Nat → Nat} : ∀ k, (∀ j, j < k → f j = g j ∧ s j = t j) → ctS f s k = ctS g t k
  | 0, _ => rfl
  | k + 1, h => by
    unfold ctS
    rw [ct_cong k (fun j hj => h j (by omega)), (h k (Nat.lt_succ_self k)).1, (h k (Nat.lt_succ_self k)).2]
theorem fold_cong {g f : Int64 → Nat → Int64} {d : Int64} : ∀ k, (∀ x j, j < k → g x j = f x j) → foldD g d k = foldD f d k
  | 0, _ => rfl
  | k + 1, h => by
    show g (foldD g d k) k = f (foldD f d k) k
    rw [fold_cong k (fun x j hj => h x j (by omega)), h _ k (Nat.lt_succ_self k)]
theorem dgF_cong {sv sw : Nat → Nat → Nat} {f1 f2 l1 l2 : Nat → Nat} {r1 r2 : Nat} (h1 : ∀ s a, s < 6 → a < 6 → sv s a = sw s a) (h2 : ∀ a, a < 6 → f1 a = f2 a) (h3 : ∀ a, a < 6 → l1 a = l2 a) (h4 : r1 = r2) : dgF n kd lt tr on sv ru f1 l1 r1 lg = dgF n kd lt tr on sw ru f2 l2 r2 lg := by
  subst h4
  unfold dgF
  have e1 : ∀ d, foldD (fun d s => foldD (fun d a => mixI d (nI (sv s a))) (mixI (mixI d (nI (tr s))) (bI (on s))) 6) d 6 = foldD (fun d s => foldD (fun d a => mixI d (nI (sw s a))) (mixI (mixI d (nI (tr s))) (bI (on s))) 6) d 6 := fun d =>
    fold_cong 6 (fun x s hs => fold_cong 6 (fun y a ha => by rw [h1 s a hs ha]))
  have e2 : ∀ d, foldD (fun d a => mixI (mixI (mixI d (rI (ru a))) (nI (f1 a))) (nI (l1 a))) d 6 = foldD (fun d a => mixI (mixI (mixI d (rI (ru a))) (nI (f2 a))) (nI (l2 a))) d 6 := fun d =>
    fold_cong 6 (fun x a ha => by rw [h2 a ha, h3 a ha])
  rw [e1, e2]
/-! logics -/
theorem wv_tt (h : REL n kd fi se sd ts fs tr sy rp lt ru lg lp) {f v : Nat} (hf : f < n) (hv : v < 4096) : told (wv kd fi se f v) true = tb (ts (f * 64 + v / 64)) (v % 64) := by rw [← h.2.2.2.2.1 f hf v hv]; exact lk_t _ _ _ _
theorem wv_tf (h : REL n kd fi se sd ts fs tr sy rp lt ru lg lp) {f v : Nat} (hf : f < n) (hv : v < 4096) : told (wv kd fi se f v) false = tb (fs (f * 64 + v / 64)) (v % 64) := by rw [← h.2.2.2.2.1 f hf v hv]; exact lk_f _ _ _ _
theorem wv_w (h : REL n kd fi se sd ts fs tr sy rp lt ru lg lp) {f w i : Nat} (hf : f < n) (hw : w < 64) (hi : i < 64) : wv kd fi se f (64 * w + i) = b2n (tb (ts (f * 64 + w)) i) + 2 * b2n (tb (fs (f * 64 + w)) i) := by
  rw [← h.2.2.2.2.1 f hf _ (by omega)]
  unfold lkN
  rw [(wv_i hi).1, (wv_i hi).2]
theorem cn_wi {w i : Nat} (hw : w < 64) (hi : i < 64) : cnS lg (64 * w + i) 6 = (tcB lg w && tcB lg i) := by rw [cn_w lg (by omega), (wv_i hi).1, (wv_i hi).2]
theorem lw_wi (h : REL n kd fi se sd ts fs tr sy rp lt ru lg lp) {w i : Nat} (hw : w < 64) (hi : i < 64) : tb (lwL lp w) i = cnS lg (64 * w + i) 6 := by rw [h.2.2.1, lw_b lg hw hi, cn_wi hw hi]
theorem models_eq (h : REL n kd fi se sd ts fs tr sy rp lt ru lg lp) {f : Nat} (hf : f < n) : ∀ w, w ≤ 64 → mdS ts lp (f * 64) w = fb_ct (fun v => cnS lg v 6 && told (wv kd fi se f v) true) (64 * w)
  | 0, _ => rfl
  | w + 1, hw => by
    rw [show 64 * (w + 1) = 64 * w + 64 by omega, fb_ct_split, ← models_eq h hf w (by omega)]
    show mdS ts lp (f * 64) w + pcN (ts (f * 64 + w) &&& lwL lp w) = _
    congr 1
    unfold pcN
    refine fb_ct_cong (fun i hi => ?_)
    rw [tb_and, lw_wi h (by omega) hi, wv_tt h hf (by omega), (wv_i hi).1, (wv_i hi).2, Bool.and_comm]
theorem rgM_bit (c : Nat → Bool) (e : Nat → Nat) (x : Nat) : ∀ N, (rgM c e N).testBit x = true ↔ ∃ v, v < N ∧ c v = true ∧ e v = x
  | 0 => by simp [rgM]
  | N + 1 => by
    have ih := rgM_bit c e x N
    unfold rgM
    by_cases q : c N = true
    · rw [if_pos q, Nat.testBit_or, Nat.testBit_two_pow, Bool.or_eq_true, ih]
      constructor
      · rintro (⟨v, h1, h2⟩ | h1)
        · exact ⟨v, by omega, h2⟩
        · exact ⟨N, by omega, q, of_decide_eq_true h1⟩
      · rintro ⟨v, h1, h2, h3⟩
        rcases Nat.lt_or_ge v N with z | z
        · exact Or.inl ⟨v, z, h2, h3⟩
        · have : v = N := by omega
          subst this
          exact Or.inr (decide_eq_true h3)
    · rw [if_neg q, ih]
      constructor
      · rintro ⟨v, h1, h2⟩
        exact ⟨v, by omega, h2⟩
      · rintro ⟨v, h1, h2, h3⟩
        rcases Nat.lt_or_ge v N with z | z
        · exact ⟨v, z, h2, h3⟩
        · have : v = N := by omega
          subst this
          exact absurd h2 q
theorem rgV_bit (x y z : Int64) (acc t : Nat) : ∀ k, (rgV x y z acc k).testBit t = true ↔ acc.testBit t = true ∨ (t < k ∧ ¬ pkL x y t &&& z = 0)
  | 0 => by simp [rgV]
  | k + 1 => by
    have ih := rgV_bit x y z acc t k
    unfold rgV
    by_cases q : pkL x y k &&& z = 0
    · rw [if_pos q, ih]
      constructor
      · rintro (a | ⟨a, b⟩)
        · exact Or.inl a
        · exact Or.inr ⟨by omega, b⟩
      · rintro (a | ⟨a, b⟩)
        · exact Or.inl a
        · rcases Nat.lt_or_ge t k with c | c
          · exact Or.inr ⟨c, b⟩
          · have : t = k := by omega
            subst this
            exact absurd q b
    · rw [if_neg q, Nat.testBit_or, Nat.testBit_two_pow, Bool.or_eq_true, ih]
      constructor
      · rintro ((a | ⟨a, b⟩) | a)
        · exact Or.inl a
        · exact Or.inr ⟨by omega, b⟩
        · have : k = t := of_decide_eq_true a
          subst this
          exact Or.inr ⟨by omega, q⟩
      · rintro (a | ⟨a, b⟩)
        · exact Or.inl (Or.inl a)
        · rcases Nat.lt_or_ge t k with c | c
          · exact Or.inl (Or.inr ⟨c, b⟩)
          · exact Or.inr (decide_eq_true (by omega))
theorem rgS_bit (ts fs : Nat → Int64) (lp : Int64) (row t : Nat) : ∀ W, (rgS ts fs lp row W).testBit t = true ↔ ∃ w, w < W ∧ t < 4 ∧ ¬ pkL (ts (row + w)) (fs (row + w)) t &&& lwL lp w = 0
  | 0 => by simp [rgS]
  | W + 1 => by
    unfold rgS
    rw [rgV_bit, rgS_bit ts fs lp row t W]
    constructor
    · rintro (⟨w, a, b⟩ | ⟨a, b⟩)
      · exact ⟨w, by omega, b⟩
      · exact ⟨W, by omega, a, b⟩
    · rintro ⟨w, a, b, c⟩
      rcases Nat.lt_or_ge w W with z | z
      · exact Or.inl ⟨w, z, b, c⟩
      · have : w = W := by omega
        subst this
        exact Or.inr ⟨b, c⟩
theorem pk_n0 (h : REL n kd fi se sd ts fs tr sy rp lt ru lg lp) {f w t : Nat} (hf : f < n) (hw : w < 64) (ht : t < 4) : (¬ pkL (ts (f * 64 + w)) (fs (f * 64 + w)) t &&& lwL lp w = 0) ↔ ∃ i, i < 64 ∧ cnS lg (64 * w + i) 6 = true ∧ wv kd fi se f (64 * w + i) = t := by
  rw [tb_n0]
  constructor
  · rintro ⟨i, hi, q⟩
    rw [tb_and, pk_b _ _ ht hi, lw_wi h hw hi, Bool.and_eq_true] at q
    exact ⟨i, hi, q.2, by rw [wv_w h hf hw hi]; exact of_decide_eq_true q.1⟩
  · rintro ⟨i, hi, q1, q2⟩
    refine ⟨i, hi, ?_⟩
    rw [tb_and, pk_b _ _ ht hi, lw_wi h hw hi, q1, ← wv_w h hf hw hi, q2]
    simp
theorem range_eq (h : REL n kd fi se sd ts fs tr sy rp lt ru lg lp) {f : Nat} (hf : f < n) : rgS ts fs lp (f * 64) 64 = rgM (fun v => cnS lg v 6) (fun v => wv kd fi se f v) 4096 := by
  apply Nat.eq_of_testBit_eq
  intro t
  rw [Bool.eq_iff_iff, rgS_bit, rgM_bit]
  constructor
  · rintro ⟨w, hw, ht, q⟩
    obtain ⟨i, hi, a, b⟩ := (pk_n0 h hf hw ht).mp q
    exact ⟨64 * w + i, by omega, a, b⟩
  · rintro ⟨v, hv, a, b⟩
    have ht : t < 4 := by rw [← b]; exact wv_lt h.1.2.2.2.2.2.2 v f hf
    have e : 64 * (v / 64) + v % 64 = v := by omega
    exact ⟨v / 64, by omega, ht, (pk_n0 h hf (by omega) ht).mpr ⟨v % 64, by omega, by rw [e]; exact a, by rw [e]; exact b⟩⟩
/-- the word of what speaks against -/
theorem fa_b (h : REL n kd fi se sd ts fs tr sy rp lt ru lg lp) {a b w i : Nat} (ha : a < n) (hb : b < n) (hw : w < 64) (hi : i < 64) : tb ((ts (a * 64 + w) &&& (ts (b * 64 + w) ^^^ (-1))) &&& lwL lp w) i = (cnS lg (64 * w + i) 6 && (told (wv kd fi se a (64 * w + i)) true && !told (wv kd fi se b (64 * w + i)) true)) := by
  rw [tb_and, tb_and, tb_not _ hi, lw_wi h hw hi, wv_tt h ha (by omega), wv_tt h hb (by omega), (wv_i hi).1, (wv_i hi).2, Bool.and_comm]
theorem against_eq (h : REL n kd fi se sd ts fs tr sy rp lt ru lg lp) {a b : Nat} (ha : a < n) (hb : b < n) : (ffO (fun w => decide (¬ (fun w => (ts (a * 64 + w) &&& (ts (b * 64 + w) ^^^ (-1))) &&& lwL lp w) w = 0)) 64).map (fun w => w * 64 + lbN ((fun w => (ts (a * 64 + w) &&& (ts (b * 64 + w) ^^^ (-1))) &&& lwL lp w) w)) = ffO (fun v => cnS lg v 6 && (told (wv kd fi se a v) true && !told (wv kd fi se b v) true)) 4096 := by
  have hz : ∀ w, w < 64 → (decide (¬ (fun w => (ts (a * 64 + w) &&& (ts (b * 64 + w) ^^^ (-1))) &&& lwL lp w) w = 0) = false) → ∀ i, i < 64 → (cnS lg (64 * w + i) 6 && (told (wv kd fi se a (64 * w + i)) true && !told (wv kd fi se b (64 * w + i)) true)) = false := fun w hw q i hi => by
    have q1 := of_decide_eq_false q
    have q2 := tb_0.mp (Classical.not_not.mp q1) i hi
    rw [← fa_b h ha hb hw hi]
    exact q2
  rcases Classical.em (∃ w, w < 64 ∧ ¬ (fun w => (ts (a * 64 + w) &&& (ts (b * 64 + w) ^^^ (-1))) &&& lwL lp w) w = 0) with q | q
  · obtain ⟨w, hw, hn0, hfirst⟩ := fb_first q
    have hprev : ∀ j, j < w → decide (¬ (fun w => (ts (a * 64 + w) &&& (ts (b * 64 + w) ^^^ (-1))) &&& lwL lp w) j = 0) = false := fun j hj => decide_eq_false (hfirst j hj)
    obtain ⟨i, hi, ht, hlow⟩ := fb_first (tb_n0.mp hn0)
    have hlb := lb_eq hi ht (fun j hj => ts_nt (hlow j hj))
    rw [ffO_at (p := fun w => decide (¬ (fun w => (ts (a * 64 + w) &&& (ts (b * 64 + w) ^^^ (-1))) &&& lwL lp w) w = 0)) hw (decide_eq_true hn0) hprev]
    show some (w * 64 + lbN _) = _
    rw [hlb]
    refine (ffO_at (by omega) ?_ (fun v hv => ?_)).symm
    · rw [show w * 64 + i = 64 * w + i by omega, ← fa_b h ha hb hw hi]
      exact ht
    · have e : 64 * (v / 64) + v % 64 = v := by omega
      rcases Nat.lt_or_ge (v / 64) w with z | z
      · have := hz (v / 64) (by omega) (hprev _ z) (v % 64) (by omega)
        rw [e] at this
        exact this
      · have e2 : v / 64 = w := by omega
        have z2 : v % 64 < i := by omega
        have := hlow (v % 64) z2
        have := ts_nt this
        rw [fa_b h ha hb hw (by omega), ← e2, e] at this
        exact this
  · have hall : ∀ w, w < 64 → decide (¬ (fun w => (ts (a * 64 + w) &&& (ts (b * 64 + w) ^^^ (-1))) &&& lwL lp w) w = 0) = false := fun w hw => decide_eq_false (fun z => q ⟨w, hw, z⟩)
    rw [ffO_none hall]
    refine (ffO_none (fun v hv => ?_)).symm
    have e : 64 * (v / 64) + v % 64 = v := by omega
    have := hz (v / 64) (by omega) (hall _ (by omega)) (v % 64) (by omega)
    rw [e] at this
    exact this
theorem entails_eq (h : REL n kd fi se sd ts fs tr sy rp lt ru lg lp) {a b : Nat} (ha : a < n) (hb : b < n) : (ffO (fun w => decide (¬ (fun w => (ts (a * 64 + w) &&& (ts (b * 64 + w) ^^^ (-1))) &&& lwL lp w) w = 0)) 64).isNone = (ffO (fun v => cnS lg v 6 && (told (wv kd fi se a v) true && !told (wv kd fi se b v) true)) 4096).isNone := by
  rw [← against_eq h ha hb, Option.isNone_map]
theorem ffO_isN {p : Nat → Bool} {k : Nat} : (ffO p k).isNone = true ↔ ∀ j, j < k → p j = false := by
  unfold ffO
  by_cases q : fa_first p k < k
  · rw [if_pos q]
    simp only [Option.isNone_some, Bool.false_eq_true, false_iff]
    intro z
    have := fa_first_yes p k q
    rw [z _ q] at this
    cases this
  · rw [if_neg q]
    simp only [Option.isNone_none, true_iff]
    intro j hj
    exact fa_first_no p k j (by omega)
theorem eqS_iff (c : Nat → Bool) (e g : Nat → Nat) : ∀ N, eqS c e g N = true ↔ ∀ v, v < N → c v = true → e v = g v
  | 0 => by simp [eqS]
  | N + 1 => by
    show (eqS c e g N && (!c N || decide (e N = g N))) = true ↔ _
    rw [Bool.and_eq_true, eqS_iff c e g N, Bool.or_eq_true]
    constructor
    · rintro ⟨h1, h2⟩ v hv hc
      rcases Nat.lt_or_ge v N with z | z
      · exact h1 v z hc
      · have : v = N := by omega
        subst this
        rcases h2 with h2 | h2
        · rw [hc] at h2; cases h2
        · exact of_decide_eq_true h2
    · intro h1
      refine ⟨fun v hv hc => h1 v (by omega) hc, ?_⟩
      cases q : c N
      · exact Or.inl rfl
      · exact Or.inr (decide_eq_true (h1 N (by omega) q))
theorem df_b (h : REL n kd fi se sd ts fs tr sy rp lt ru lg lp) {a b w w2 i sh : Nat} (ha : a < n) (hb : b < n) (hw : w < 64) (hw2 : w2 < 64) (hi : i < 64) (hsh : i + sh < 64) : tb (dfL ts fs (a * 64 + w) (b * 64 + w2) sh) i = decide (¬ wv kd fi se a (64 * w + i) = wv kd fi se b (64 * w2 + (i + sh))) := by
  unfold dfL
  rw [tb_or, tb_xor, tb_xor, tb_shr _ (by omega) hi, tb_shr _ (by omega) hi, decide_eq_true hsh, Bool.true_and, Bool.true_and, wv_w h ha hw hi, wv_w h hb hw2 hsh]
  have key : ∀ p q r s : Bool, ((p ^^ r) || (q ^^ s)) = decide (¬ b2n p + 2 * b2n q = b2n r + 2 * b2n s) := by decide
  exact key _ _ _ _
theorem equal_eq (h : REL n kd fi se sd ts fs tr sy rp lt ru lg lp) {a b : Nat} (ha : a < n) (hb : b < n) : (ffO (fun w => decide (¬ dfL ts fs (a * 64 + w) (b * 64 + w) 0 &&& lwL lp w = 0)) 64).isNone = eqS (fun v => cnS lg v 6) (fun v => wv kd fi se a v) (fun v => wv kd fi se b v) 4096 := by
  rw [Bool.eq_iff_iff, ffO_isN, eqS_iff]
  constructor
  · intro q v hv hc
    have e : 64 * (v / 64) + v % 64 = v := by omega
    have q1 := of_decide_eq_false (q (v / 64) (by omega))
    have q2 := tb_0.mp (Classical.not_not.mp q1) (v % 64) (by omega)
    rw [tb_and, df_b h ha hb (by omega) (by omega) (by omega) (by omega), lw_wi h (by omega) (by omega), Nat.add_zero, e, hc, Bool.and_true] at q2
    exact Classical.not_not.mp (of_decide_eq_false q2)
  · intro q w hw
    refine decide_eq_false (fun z => z (tb_0.mpr (fun i hi => ?_)))
    rw [tb_and, df_b h ha hb hw hw hi (by omega), lw_wi h hw hi, Nat.add_zero]
    cases c : cnS lg (64 * w + i) 6
    · simp
    · rw [q (64 * w + i) (by omega) c]
      simp
end RS
