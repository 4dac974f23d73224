/-! each change keeps the two states the same -/
theorem up_self {α : Type} (f : Nat → α) (n : Nat) (x : α) : va_up f n x n = x := by simp [va_up]
theorem up_ne {α : Type} (f : Nat → α) {n j : Nat} (x : α) (h : ¬ j = n) : va_up f n x j = f j := by simp [va_up, h]
theorem wvA_ext {kd fi se : Nat → Nat} {n k x y v : Nat} : ∀ i, i ≤ n → wvA (va_up kd n k) (va_up fi n x) (va_up se n y) v i = wvA kd fi se v i
  | 0, _ => rfl
  | i + 1, h => by
    have ih := wvA_ext (kd := kd) (fi := fi) (se := se) (n := n) (k := k) (x := x) (y := y) (v := v) i (by omega)
    have hi : ¬ i = n := by omega
    show va_up (wvA (va_up kd n k) (va_up fi n x) (va_up se n y) v i) i (stp (va_up kd n k i) (va_up fi n x i) v (wvA (va_up kd n k) (va_up fi n x) (va_up se n y) v i (va_up fi n x i)) (wvA (va_up kd n k) (va_up fi n x) (va_up se n y) v i (va_up se n y i))) = _
    rw [ih, up_ne kd k hi, up_ne fi x hi, up_ne se y hi]
    rfl
theorem wv_ext {kd fi se : Nat → Nat} {n k x y f v : Nat} (hf : f < n) : wv (va_up kd n k) (va_up fi n x) (va_up se n y) f v = wv kd fi se f v := by
  unfold wv
  rw [wvA_ext (f + 1) (by omega)]
theorem wv_new {kd fi se : Nat → Nat} {n k x y v : Nat} : wv (va_up kd n k) (va_up fi n x) (va_up se n y) n v = stp k x v (wvA kd fi se v n x) (wvA kd fi se v n y) := by
  rw [wv_eq, wvA_ext n (Nat.le_refl n), up_self, up_self, up_self]
theorem bg_cong {g g' : Nat → Nat} : ∀ k, (∀ a, a < k → g a = g' a) → bgS g k = bgS g' k
  | 0, _ => rfl
  | k + 1, h => by
    unfold bgS
    rw [bg_cong k (fun a ha => h a (by omega)), h k (by omega)]
theorem dg_and (x y a : Nat) : dg (x &&& y) a = dg x a &&& dg y a := by
  unfold dg
  rw [Nat.and_div_two_pow]
  exact Nat.and_mod_two_pow (n := 2)
theorem dg_mask : ∀ b, b < 6 → ∀ c, c < 6 → dg (4095 ^^^ (3 * 2 ^ (2 * (5 - b)))) c = if c = b then 0 else 3 := by decide
theorem and3' : ∀ x, x < 4 → x &&& 3 = x := by decide
theorem rpU_dg {x b v c : Nat} (hv : v < 4) (hb : b < 6) (hc : c < 6) : dg (rpU x b v) c = if c = b then v else dg x c := by
  unfold rpU
  rw [dg_or, dg_and, dg_mask b hb c hc, dg_p hv hb hc]
  by_cases q : c = b
  · rw [if_pos q, if_pos q, if_pos q]; simp
  · rw [if_neg q, if_neg q, if_neg q, and3' _ (dg_lt _ _)]; simp
theorem mask_lt : ∀ b, b < 6 → 4095 ^^^ (3 * 2 ^ (2 * (5 - b))) < 4096 := by decide
theorem pl_lt : ∀ v, v < 4 → ∀ b, b < 6 → v * 2 ^ (2 * (5 - b)) < 4096 := by decide
theorem rpU_lt {x b v : Nat} (hv : v < 4) (hb : b < 6) : rpU x b v < 4096 := Nat.or_lt_two_pow (n := 12) (Nat.lt_of_le_of_lt Nat.and_le_right (mask_lt b hb)) (pl_lt v hv b hb)
theorem tb_cv {v i : Nat} (b : Bool) (hi : i < 64) : tb (cvL v b) i = told v b := by
  unfold cvL
  cases q : told v b
  · simp [tb_z]
  · simp [tb_m1 i hi]
section RK
variable {n : Nat} {kd fi se : Nat → Nat} {sd : Nat → Bool} {ts fs : Nat → Int64} {tr sy rp : Nat → Nat} {on : Nat → Bool} {lt : Nat} {ru : Nat → Option Nat} {lg : Nat} {lp : Int64}
theorem REL.add (h : REL n kd fi se sd ts fs tr sy rp lt ru lg lp) (hn : n < 40) {k x y : Nat} {b : Bool} {g1 g2 : Nat → Int64} (hk : k < 9) (h0 : k = 0 → x < 6) (h1 : k = 1 → x < 4) (h2 : 2 ≤ k → x < n) (h3 : 3 ≤ k ∧ k ≤ 7 → y < n) (hb : b = true → k < 7 ∧ (2 ≤ k → sd x = true) ∧ (3 ≤ k → sd y = true))
    (hg : ∀ w, w < 64 → ∀ i, i < 64 → b2n (tb (g1 w) i) + 2 * b2n (tb (g2 w) i) = stp k x (64 * w + i) (wvA kd fi se (64 * w + i) n x) (wvA kd fi se (64 * w + i) n y)) : REL (n + 1) (va_up kd n k) (va_up fi n x) (va_up se n y) (va_up sd n b) (pt ts (n * 64) g1 64) (pt fs (n * 64) g2 64) tr sy rp lt ru lg lp := by
  obtain ⟨⟨a1, a2, a3, a4, a5, a6, a7⟩, b1, b2, b3, b4, b5, b6⟩ := h
  refine ⟨⟨by omega, a2, a3, a4, a5, fun a f ha hf => Nat.lt_succ_of_lt (a6 a f ha hf), ?_⟩, b1, b2, b3, ?_, ?_, ?_⟩
  · intro f hf
    rcases Nat.lt_or_ge f n with q | q
    · have e : ¬ f = n := by omega
      rw [up_ne kd k e, up_ne fi x e, up_ne se y e]
      exact a7 f q
    · have e : f = n := by omega
      subst e
      rw [up_self, up_self, up_self]
      exact ⟨hk, h0, h1, h2, h3⟩
  · intro f hf v hv
    rcases Nat.lt_or_ge f n with q | q
    · rw [wv_ext q, ← b4 f q v hv]
      unfold lkN
      rw [pt_out (Or.inl (by omega)), pt_out (Or.inl (by omega))]
    · have e : f = n := by omega
      subst e
      rw [wv_new]
      have := hg (v / 64) (by omega) (v % 64) (by omega)
      rw [show 64 * (v / 64) + v % 64 = v by omega] at this
      rw [← this]
      unfold lkN
      rw [pt_in (by omega), pt_in (by omega)]
  · intro f hf hs
    rcases Nat.lt_or_ge f n with q | q
    · have e : ¬ f = n := by omega
      rw [up_ne sd b e] at hs
      rw [up_ne kd k e, up_ne fi x e, up_ne se y e]
      obtain ⟨c1, c2, c3⟩ := b5 f q hs
      obtain ⟨w1, w2, w3, w4, w5⟩ := a7 f q
      refine ⟨c1, fun z => ?_, fun z => ?_⟩
      · have := w4 z
        rw [up_ne sd b (by omega)]
        exact c2 z
      · have := w5 ⟨z, by omega⟩
        rw [up_ne sd b (by omega)]
        exact c3 z
    · have e : f = n := by omega
      subst e
      rw [up_self] at hs
      rw [up_self, up_self, up_self]
      obtain ⟨c1, c2, c3⟩ := hb hs
      refine ⟨c1, fun z => ?_, fun z => ?_⟩
      · have := h2 z
        rw [up_ne sd b (by omega)]
        exact c2 z
      · have := h3 ⟨z, by omega⟩
        rw [up_ne sd b (by omega)]
        exact c3 z
  · intro a f ha hf
    have := a6 a f ha hf
    rw [up_ne sd b (by omega)]
    exact b6 a f ha hf
theorem REL.atom (h : REL n kd fi se sd ts fs tr sy rp lt ru lg lp) (hn : n < 40) {a : Nat} (ha : a < 6) : REL (n + 1) (va_up kd n 0) (va_up fi n a) (va_up se n 0) (va_up sd n true) (pt ts (n * 64) (fun w => vbL (2 * (5 - a)) w) 64) (pt fs (n * 64) (fun w => vbL (2 * (5 - a) + 1) w) 64) tr sy rp lt ru lg lp := by
  refine h.add hn (by decide) (fun _ => ha) (fun q => absurd q (by decide)) (fun q => absurd q (by decide)) (fun q => absurd q.1 (by decide)) (fun _ => ⟨by decide, fun q => absurd q (by decide), fun q => absurd q (by decide)⟩) (fun w hw i hi => ?_)
  show b2n (tb (vbL (2 * (5 - a)) w) i) + 2 * b2n (tb (vbL (2 * (5 - a) + 1) w) i) = dg (64 * w + i) a
  rw [vb_b (by omega) hw hi, vb_b (by omega) hw hi, ← (told_dg (64 * w + i) a ha).1, ← (told_dg (64 * w + i) a ha).2]
  exact (told_n _ (dg_lt _ _)).symm
theorem REL.constant (h : REL n kd fi se sd ts fs tr sy rp lt ru lg lp) (hn : n < 40) {v : Nat} (hv : v < 4) : REL (n + 1) (va_up kd n 1) (va_up fi n v) (va_up se n 0) (va_up sd n true) (pt ts (n * 64) (fun _ => cvL v true) 64) (pt fs (n * 64) (fun _ => cvL v false) 64) tr sy rp lt ru lg lp := by
  refine h.add hn (by decide) (fun q => absurd q (by decide)) (fun _ => hv) (fun q => absurd q (by decide)) (fun q => absurd q.1 (by decide)) (fun _ => ⟨by decide, fun q => absurd q (by decide), fun q => absurd q (by decide)⟩) (fun w hw i hi => ?_)
  show b2n (tb (cvL v true) i) + 2 * b2n (tb (cvL v false) i) = v
  rw [tb_cv true hi, tb_cv false hi]
  exact (told_n v hv).symm
theorem st2 : ∀ p q : Bool, ∀ x v c, b2n q + 2 * b2n p = stp 2 x v (b2n p + 2 * b2n q) c := by
  intro p q x v c
  cases p <;> cases q <;> rfl
theorem st8 : ∀ p q : Bool, ∀ x v c, b2n (!q) + 2 * b2n (!p) = stp 8 x v (b2n p + 2 * b2n q) c := by
  intro p q x v c
  cases p <;> cases q <;> rfl
theorem REL.turn2 (h : REL n kd fi se sd ts fs tr sy rp lt ru lg lp) (hn : n < 40) {a : Nat} (ha : a < n) : REL (n + 1) (va_up kd n 2) (va_up fi n a) (va_up se n 0) (va_up sd n (sd a)) (pt ts (n * 64) (fun w => fs (a * 64 + w)) 64) (pt fs (n * 64) (fun w => ts (a * 64 + w)) 64) tr sy rp lt ru lg lp := by
  refine h.add hn (by decide) (fun q => absurd q (by decide)) (fun q => absurd q (by decide)) (fun _ => ha) (fun q => absurd q.1 (by decide)) (fun z => ⟨by decide, fun _ => z, fun q => absurd q (by decide)⟩) (fun w hw i hi => ?_)
  rw [wvA_at ha, wv_w h ha hw hi]
  exact st2 _ _ _ _ _
theorem REL.turn8 (h : REL n kd fi se sd ts fs tr sy rp lt ru lg lp) (hn : n < 40) {a : Nat} (ha : a < n) : REL (n + 1) (va_up kd n 8) (va_up fi n a) (va_up se n 0) (va_up sd n false) (pt ts (n * 64) (fun w => fs (a * 64 + w) ^^^ (-1)) 64) (pt fs (n * 64) (fun w => ts (a * 64 + w) ^^^ (-1)) 64) tr sy rp lt ru lg lp := by
  refine h.add hn (by decide) (fun q => absurd q (by decide)) (fun q => absurd q (by decide)) (fun _ => ha) (fun q => absurd q.2 (by decide)) (fun z => absurd z (by decide)) (fun w hw i hi => ?_)
  rw [wvA_at ha, wv_w h ha hw hi, tb_not _ hi, tb_not _ hi]
  exact st8 _ _ _ _ _
theorem REL.join (h : REL n kd fi se sd ts fs tr sy rp lt ru lg lp) (hn : n < 40) {k a b : Nat} (hk : 3 ≤ k ∧ k ≤ 7) (ha : a < n) (hb : b < n) : REL (n + 1) (va_up kd n k) (va_up fi n a) (va_up se n b) (va_up sd n (decide (k ≠ 7) && sd a && sd b)) (pt ts (n * 64) (fun w => jTL k (ts (a * 64 + w)) (ts (b * 64 + w))) 64) (pt fs (n * 64) (fun w => jFL k (ts (a * 64 + w)) (fs (a * 64 + w)) (fs (b * 64 + w))) 64) tr sy rp lt ru lg lp := by
  refine h.add hn (by omega) (fun q => by omega) (fun q => by omega) (fun _ => ha) (fun _ => hb) (fun z => ?_) (fun w hw i hi => ?_)
  · rw [Bool.and_eq_true, Bool.and_eq_true] at z
    have := of_decide_eq_true z.1.1
    exact ⟨by omega, fun _ => z.1.2, fun _ => z.2⟩
  · rw [wvA_at ha, wvA_at hb, wv_w h ha hw hi, wv_w h hb hw hi]
    rcases (show k = 3 ∨ k = 4 ∨ k = 5 ∨ k = 6 ∨ k = 7 by omega) with rfl | rfl | rfl | rfl | rfl
    · show b2n (tb (ts (a * 64 + w) &&& ts (b * 64 + w)) i) + 2 * b2n (tb (fs (a * 64 + w) ||| fs (b * 64 + w)) i) = _
      rw [tb_and, tb_or]
      cases tb (ts (a * 64 + w)) i <;> cases tb (fs (a * 64 + w)) i <;> cases tb (ts (b * 64 + w)) i <;> cases tb (fs (b * 64 + w)) i <;> rfl
    · show b2n (tb (ts (a * 64 + w) ||| ts (b * 64 + w)) i) + 2 * b2n (tb (fs (a * 64 + w) &&& fs (b * 64 + w)) i) = _
      rw [tb_or, tb_and]
      cases tb (ts (a * 64 + w)) i <;> cases tb (fs (a * 64 + w)) i <;> cases tb (ts (b * 64 + w)) i <;> cases tb (fs (b * 64 + w)) i <;> rfl
    · show b2n (tb (ts (a * 64 + w) &&& ts (b * 64 + w)) i) + 2 * b2n (tb (fs (a * 64 + w) &&& fs (b * 64 + w)) i) = _
      rw [tb_and, tb_and]
      cases tb (ts (a * 64 + w)) i <;> cases tb (fs (a * 64 + w)) i <;> cases tb (ts (b * 64 + w)) i <;> cases tb (fs (b * 64 + w)) i <;> rfl
    · show b2n (tb (ts (a * 64 + w) ||| ts (b * 64 + w)) i) + 2 * b2n (tb (fs (a * 64 + w) ||| fs (b * 64 + w)) i) = _
      rw [tb_or, tb_or]
      cases tb (ts (a * 64 + w)) i <;> cases tb (fs (a * 64 + w)) i <;> cases tb (ts (b * 64 + w)) i <;> cases tb (fs (b * 64 + w)) i <;> rfl
    · show b2n (tb ((ts (a * 64 + w) ^^^ (-1)) ||| ts (b * 64 + w)) i) + 2 * b2n (tb (ts (a * 64 + w) &&& fs (b * 64 + w)) i) = _
      rw [tb_or, tb_not _ hi, tb_and]
      cases tb (ts (a * 64 + w)) i <;> cases tb (fs (a * 64 + w)) i <;> cases tb (ts (b * 64 + w)) i <;> cases tb (fs (b * 64 + w)) i <;> rfl
theorem REL.report (h : REL n kd fi se sd ts fs tr sy rp lt ru lg lp) {a b v : Nat} (ha : a < 6) (hb : b < 6) (hv : v < 4) : REL n kd fi se sd ts fs tr (va_up sy (6 * a + b) v) (va_up rp a (rpU (rp a) b v)) lt ru lg lp := by
  have hrp : ∀ s c, s < 6 → c < 6 → dg (rp s) c = sy (6 * s + c) := fun s c hs hc => rp_dg h hs hc
  obtain ⟨⟨a1, a2, a3, a4, a5, a6, a7⟩, b1, b2, b3, b4, b5, b6⟩ := h
  have hsy : ∀ j, j < 36 → va_up sy (6 * a + b) v j < 4 := by
    intro j hj
    by_cases q : j = 6 * a + b
    · rw [q, up_self]; exact hv
    · rw [up_ne _ _ q]; exact a3 j hj
  refine ⟨⟨a1, a2, hsy, a4, a5, a6, a7⟩, b1, b2, ?_, b4, b5, b6⟩
  intro s hs
  by_cases q : s = a
  · subst q
    rw [up_self]
    refine ext6 (rpU_lt hv hb) (bgS_lt6 (fun c hc => hsy _ (by omega))) (fun c hc => ?_)
    rw [rpU_dg hv hb hc, dg_bg (g := fun c => va_up sy (6 * s + b) v (6 * s + c)) (fun c hc => hsy _ (by omega)) hc]
    by_cases z : c = b
    · subst z
      rw [if_pos rfl, up_self]
    · rw [if_neg z, hrp s c hs hc, up_ne _ _ (by omega)]
  · rw [up_ne _ _ q, b3 s hs]
    exact bg_cong 6 (fun c hc => by rw [up_ne _ _ (by omega)])
theorem REL.trust (h : REL n kd fi se sd ts fs tr sy rp lt ru lg lp) {a t : Nat} (ht : t ≤ 100) : REL n kd fi se sd ts fs (va_up tr a t) sy rp lt ru lg lp := by
  obtain ⟨⟨a1, a2, a3, a4, a5, a6, a7⟩, b1, b2, b3, b4, b5, b6⟩ := h
  refine ⟨⟨a1, fun s hs => ?_, a3, a4, a5, a6, a7⟩, b1, b2, b3, b4, b5, b6⟩
  by_cases q : s = a
  · rw [q, up_self]; exact ht
  · rw [up_ne _ _ q]; exact a2 s hs
theorem REL.least (h : REL n kd fi se sd ts fs tr sy rp lt ru lg lp) {t : Nat} (ht : t ≤ 100) : REL n kd fi se sd ts fs tr sy rp t ru lg lp := by
  obtain ⟨⟨a1, a2, a3, a4, a5, a6, a7⟩, b1, b2, b3, b4, b5, b6⟩ := h
  exact ⟨⟨a1, a2, a3, ht, a5, a6, a7⟩, b1, b2, b3, b4, b5, b6⟩
theorem REL.logic (h : REL n kd fi se sd ts fs tr sy rp lt ru lg lp) {g : Nat} (hg : 1 ≤ g ∧ g ≤ 15) : REL n kd fi se sd ts fs tr sy rp lt ru g (tpL g 64) := by
  obtain ⟨⟨a1, a2, a3, a4, a5, a6, a7⟩, b1, b2, b3, b4, b5, b6⟩ := h
  exact ⟨⟨a1, a2, a3, a4, by omega, a6, a7⟩, hg.1, rfl, b3, b4, b5, b6⟩
theorem REL.rule (h : REL n kd fi se sd ts fs tr sy rp lt ru lg lp) {a : Nat} {o : Option Nat} (ho : ∀ f, o = some f → f < n ∧ sd f = true) : REL n kd fi se sd ts fs tr sy rp lt (va_up ru a o) lg lp := by
  obtain ⟨⟨a1, a2, a3, a4, a5, a6, a7⟩, b1, b2, b3, b4, b5, b6⟩ := h
  refine ⟨⟨a1, a2, a3, a4, a5, fun s f hs hf => ?_, a7⟩, b1, b2, b3, b4, b5, fun s f hs hf => ?_⟩
  · by_cases q : s = a
    · rw [q, up_self] at hf; exact (ho f hf).1
    · rw [up_ne _ _ q] at hf; exact a6 s f hs hf
  · by_cases q : s = a
    · rw [q, up_self] at hf; exact (ho f hf).2
    · rw [up_ne _ _ q] at hf; exact b6 s f hs hf
end RK
theorem tp15 : (-1 : Int64) = tpL 15 64 := by decide +kernel
theorem REL.init : REL 0 (fun _ => 0) (fun _ => 0) (fun _ => 0) (fun _ => false) (fun _ => 0) (fun _ => 0) tr0 (fun _ => 0) (fun _ => 0) 1 ru0 15 (-1) := by
  refine ⟨⟨by decide, fun s hs => ?_, fun j _ => Nat.zero_lt_succ 3, by decide, by decide, fun a f ha hf => ?_, fun f hf => absurd hf (Nat.not_lt_zero f)⟩, by decide, tp15, fun s hs => ?_, fun f hf => absurd hf (Nat.not_lt_zero f), fun f hf => absurd hf (Nat.not_lt_zero f), fun a f ha hf => ?_⟩
  · unfold tr0; rw [if_pos hs]; decide
  · unfold ru0 at hf; rw [if_pos ha] at hf; cases hf
  · rfl
  · unfold ru0 at hf; rw [if_pos ha] at hf; cases hf
