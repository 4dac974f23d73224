/-! states: the class's numbers and the reference's are the same -/
theorem dg_or (x y a : Nat) : dg (x ||| y) a = dg x a ||| dg y a := by
  unfold dg
  rw [Nat.or_div_two_pow]
  exact Nat.or_mod_two_pow (n := 2)
theorem dg_z (a : Nat) : dg 0 a = 0 := by unfold dg; simp
theorem dg_p {v k a : Nat} (hv : v < 4) (hk : k < 6) (ha : a < 6) : dg (v * 2 ^ (2 * (5 - k))) a = if a = k then v else 0 := by
  unfold dg
  rcases (show k = 0 ∨ k = 1 ∨ k = 2 ∨ k = 3 ∨ k = 4 ∨ k = 5 by omega) with rfl | rfl | rfl | rfl | rfl | rfl <;>
    rcases (show a = 0 ∨ a = 1 ∨ a = 2 ∨ a = 3 ∨ a = 4 ∨ a = 5 by omega) with rfl | rfl | rfl | rfl | rfl | rfl <;> simp <;> omega
theorem dg_bg {g : Nat → Nat} (hg : ∀ a, a < 6 → g a < 4) {a : Nat} (ha : a < 6) : dg (bgS g 6) a = g a := by
  have h0 := hg 0 (by decide)
  have h1 := hg 1 (by decide)
  have h2 := hg 2 (by decide)
  have h3 := hg 3 (by decide)
  have h4 := hg 4 (by decide)
  have h5 := hg 5 (by decide)
  have e : bgS g 6 = 4 * (4 * (4 * (4 * (4 * (4 * 0 + g 0) + g 1) + g 2) + g 3) + g 4) + g 5 := rfl
  unfold dg
  rw [e]
  rcases (show a = 0 ∨ a = 1 ∨ a = 2 ∨ a = 3 ∨ a = 4 ∨ a = 5 by omega) with rfl | rfl | rfl | rfl | rfl | rfl <;> simp <;> omega
theorem ext6 {x y : Nat} (hx : x < 4096) (hy : y < 4096) (h : ∀ a, a < 6 → dg x a = dg y a) : x = y := by
  obtain ⟨a0, a1, a2, a3, a4, a5⟩ := dg_w hx
  obtain ⟨b0, b1, b2, b3, b4, b5⟩ := dg_w hy
  have c0 := h 0 (by decide)
  have c1 := h 1 (by decide)
  have c2 := h 2 (by decide)
  have c3 := h 3 (by decide)
  have c4 := h 4 (by decide)
  have c5 := h 5 (by decide)
  rw [a0, b0] at c0
  rw [a1, b1] at c1
  rw [a2, b2] at c2
  rw [a3, b3] at c3
  rw [a4, b4] at c4
  rw [a5, b5] at c5
  omega
/-- the class's and the reference's worlds say the same -/
def STD (n : Nat) (kd fi se : Nat → Nat) (sd : Nat → Bool) : Prop := ∀ f, f < n → sd f = true → kd f < 7 ∧ (2 ≤ kd f → sd (fi f) = true) ∧ (3 ≤ kd f → sd (se f) = true)
def REL (n : Nat) (kd fi se : Nat → Nat) (sd : Nat → Bool) (ts fs : Nat → Int64) (tr sy rp : Nat → Nat) (lt : Nat) (ru : Nat → Option Nat) (lg : Nat) (lp : Int64) : Prop :=
  OKM n kd fi se tr sy lt lg ru ∧ 1 ≤ lg ∧ lp = tpL lg 64 ∧ (∀ s, s < 6 → rp s = bgS (fun a => sy (6 * s + a)) 6) ∧ (∀ f, f < n → ∀ v, v < 4096 → lkN ts fs f v = wv kd fi se f v) ∧ STD n kd fi se sd ∧ (∀ a f, a < 6 → ru a = some f → sd f = true)
section RL
variable {n : Nat} {kd fi se : Nat → Nat} {sd : Nat → Bool} {ts fs : Nat → Int64} {tr sy rp : Nat → Nat} {on : Nat → Bool} {lt : Nat} {ru : Nat → Option Nat} {lg : Nat} {lp : Int64}
theorem rp_lt (h : REL n kd fi se sd ts fs tr sy rp lt ru lg lp) : ∀ s, s < 6 → rp s < 4096 := fun s hs => by
  rw [h.2.2.2.1 s hs]
  exact bgS_lt6 (fun a ha => h.1.2.2.1 _ (by omega))
theorem REL.okc (h : REL n kd fi se sd ts fs tr sy rp lt ru lg lp) : OKC n tr rp lt lg ru := ⟨h.1.1, h.1.2.1, rp_lt h, h.1.2.2.2.1, h.1.2.2.2.2.1, h.1.2.2.2.2.2.1⟩
theorem rp_dg (h : REL n kd fi se sd ts fs tr sy rp lt ru lg lp) {s a : Nat} (hs : s < 6) (ha : a < 6) : dg (rp s) a = sy (6 * s + a) := by
  rw [h.2.2.2.1 s hs]
  exact dg_bg (g := fun a => sy (6 * s + a)) (fun a ha => h.1.2.2.1 _ (by omega)) ha
theorem gs_dg (h : REL n kd fi se sd ts fs tr sy rp lt ru lg lp) (w : Nat) {a : Nat} (ha : a < 6) : ∀ k, k ≤ 6 → dg (gsS rp w k) a = gbS sy w a k
  | 0, _ => dg_z a
  | k + 1, hk => by
    have ih := gs_dg h w ha k (by omega)
    unfold gsS gbS
    by_cases q : w.testBit k = true
    · rw [if_pos q, if_pos q, dg_or, ih, rp_dg h (by omega) ha]
    · rw [if_neg q, if_neg q, ih]
theorem gs_eq (h : REL n kd fi se sd ts fs tr sy rp lt ru lg lp) (w : Nat) : gsS rp w 6 = bgS (fun a => gbS sy w a 6) 6 := by
  have hg : ∀ a, a < 6 → gbS sy w a 6 < 4 := fun a ha => gbS_lt h.1.2.2.1 ha 6 (Nat.le_refl 6)
  exact ext6 (gsS_lt (rp_lt h) w 6 (Nat.le_refl 6)) (bgS_lt6 hg) (fun a ha => by rw [gs_dg h w ha 6 (Nat.le_refl 6), dg_bg (g := fun a => gbS sy w a 6) hg ha])
theorem nx_dg {ev : Nat → Nat → Nat} (he : ∀ f v, ev f v < 4) (ru : Nat → Option Nat) (first st : Nat) {a : Nat} (ha : a < 6) : ∀ k, k ≤ 6 → dg (nxS ev ru first st k) a = dg first a ||| (if a < k then (match ru a with | none => 0 | some f => ev f st) else 0)
  | 0, _ => by simp [nxS]
  | k + 1, hk => by
    have ih := nx_dg he ru first st ha k (by omega)
    unfold nxS
    cases e : ru k with
    | none =>
      show dg (nxS ev ru first st k) a = _
      rw [ih]
      rcases Nat.lt_trichotomy a k with q | q | q
      · rw [if_pos q, if_pos (by omega)]
      · subst q
        rw [if_neg (Nat.lt_irrefl _), if_pos (Nat.lt_succ_self _), e]
      · rw [if_neg (by omega), if_neg (by omega)]
    | some f =>
      show dg (nxS ev ru first st k ||| _) a = _
      rw [dg_or, ih, dg_p (he _ _) (by omega) ha]
      rcases Nat.lt_trichotomy a k with q | q | q
      · rw [if_pos q, if_neg (show ¬ a = k by omega), if_pos (show a < k + 1 by omega), Nat.or_zero]
      · subst q
        rw [if_neg (Nat.lt_irrefl _), if_pos (Nat.lt_succ_self _), if_pos rfl, e, Nat.or_zero]
      · rw [if_neg (show ¬ a < k by omega), if_neg (show ¬ a = k by omega), if_neg (show ¬ a < k + 1 by omega), Nat.or_zero]
theorem it_eq (h : REL n kd fi se sd ts fs tr sy rp lt ru lg lp) (w : Nat) : ∀ r, itS (lkN ts fs) ru (gsS rp w 6) r = mIt sy (wv kd fi se) ru w r
  | 0 => gs_eq h w
  | r + 1 => by
    have ih := it_eq h w r
    have hst : mIt sy (wv kd fi se) ru w r < 4096 := mIt_lt h.1 w r
    show nxS (lkN ts fs) ru (gsS rp w 6) (itS (lkN ts fs) ru (gsS rp w 6) r) 6 = bgS (gG sy (wv kd fi se) ru w (mIt sy (wv kd fi se) ru w r)) 6
    rw [ih]
    refine ext6 (nxS_lt (lkN_lt ts fs) ru (gsS_lt (rp_lt h) w 6 (Nat.le_refl 6)) _ 6) (bgS_lt6 (gG_lt h.1 w _)) (fun a ha => ?_)
    rw [nx_dg (lkN_lt ts fs) ru _ _ ha 6 (Nat.le_refl 6), if_pos ha, gs_dg h w ha 6 (Nat.le_refl 6), dg_bg (gG_lt h.1 w _) ha]
    unfold gG
    cases e : ru a with
    | none => rfl
    | some f =>
      show _ ||| lkN ts fs f _ = _ ||| wv kd fi se f _
      rw [h.2.2.2.2.1 f (h.1.2.2.2.2.2.1 a f ha e) _ hst]
/-! the rounds come to an end -/
theorem stp_m2 : ∀ a c b d : Fin 4, a.1 ||| c.1 = c.1 → b.1 ||| d.1 = d.1 → stp 2 0 0 a.1 b.1 ||| stp 2 0 0 c.1 d.1 = stp 2 0 0 c.1 d.1 := by decide +kernel
theorem stp_m3 : ∀ a c b d : Fin 4, a.1 ||| c.1 = c.1 → b.1 ||| d.1 = d.1 → stp 3 0 0 a.1 b.1 ||| stp 3 0 0 c.1 d.1 = stp 3 0 0 c.1 d.1 := by decide +kernel
theorem stp_m4 : ∀ a c b d : Fin 4, a.1 ||| c.1 = c.1 → b.1 ||| d.1 = d.1 → stp 4 0 0 a.1 b.1 ||| stp 4 0 0 c.1 d.1 = stp 4 0 0 c.1 d.1 := by decide +kernel
theorem stp_m5 : ∀ a c b d : Fin 4, a.1 ||| c.1 = c.1 → b.1 ||| d.1 = d.1 → stp 5 0 0 a.1 b.1 ||| stp 5 0 0 c.1 d.1 = stp 5 0 0 c.1 d.1 := by decide +kernel
theorem stp_m6 : ∀ a c b d : Fin 4, a.1 ||| c.1 = c.1 → b.1 ||| d.1 = d.1 → stp 6 0 0 a.1 b.1 ||| stp 6 0 0 c.1 d.1 = stp 6 0 0 c.1 d.1 := by decide +kernel
theorem stp_mono (k : Nat) (h7 : k < 7) (h2 : 2 ≤ k) (a : Nat) (ha : a < 4) (c : Nat) (hc : c < 4) (b : Nat) (hb : b < 4) (d : Nat) (hd : d < 4) (h1 : a ||| c = c) (h3 : b ||| d = d) : stp k 0 0 a b ||| stp k 0 0 c d = stp k 0 0 c d := by
  rcases (show k = 2 ∨ k = 3 ∨ k = 4 ∨ k = 5 ∨ k = 6 by omega) with rfl | rfl | rfl | rfl | rfl
  · exact stp_m2 ⟨a, ha⟩ ⟨c, hc⟩ ⟨b, hb⟩ ⟨d, hd⟩ h1 h3
  · exact stp_m3 ⟨a, ha⟩ ⟨c, hc⟩ ⟨b, hb⟩ ⟨d, hd⟩ h1 h3
  · exact stp_m4 ⟨a, ha⟩ ⟨c, hc⟩ ⟨b, hb⟩ ⟨d, hd⟩ h1 h3
  · exact stp_m5 ⟨a, ha⟩ ⟨c, hc⟩ ⟨b, hb⟩ ⟨d, hd⟩ h1 h3
  · exact stp_m6 ⟨a, ha⟩ ⟨c, hc⟩ ⟨b, hb⟩ ⟨d, hd⟩ h1 h3
theorem stp_x {k : Nat} (hk : 2 ≤ k) (x v a b : Nat) : stp k x v a b = stp k 0 0 a b := by
  have h0 : ¬ k = 0 := by omega
  have h1 : ¬ k = 1 := by omega
  simp only [stp, if_neg h0, if_neg h1]
theorem wv_mono (h : REL n kd fi se sd ts fs tr sy rp lt ru lg lp) {x y : Nat} (hxy : ∀ a, a < 6 → dg x a ||| dg y a = dg y a) : ∀ f, f < n → sd f = true → wv kd fi se f x ||| wv kd fi se f y = wv kd fi se f y := by
  intro f
  induction f using Nat.strongRecOn with
  | ind f ih =>
    intro hf hs
    obtain ⟨h9, h0, h1, h2, h3⟩ := h.1.2.2.2.2.2.2 f hf
    obtain ⟨s7, s2, s3⟩ := h.2.2.2.2.2.1 f hf hs
    by_cases e0 : kd f = 0
    · rw [wv_eq, wv_eq kd fi se f y, e0]
      exact hxy _ (h0 e0)
    · by_cases e1 : kd f = 1
      · rw [wv_eq, wv_eq kd fi se f y, e1]
        exact Nat.or_self _
      · have hfi := h2 (by omega)
        have ha := ih _ hfi (Nat.lt_trans hfi hf) (s2 (by omega))
        have a4 := wv_lt h.1.2.2.2.2.2.2 x _ (Nat.lt_trans hfi hf)
        have c4 := wv_lt h.1.2.2.2.2.2.2 y _ (Nat.lt_trans hfi hf)
        by_cases e2 : kd f = 2
        · rw [wv_k (v := x) e2 hfi (Or.inr (Or.inl rfl)), wv_k (v := y) e2 hfi (Or.inr (Or.inl rfl)), stp_x (by decide), stp_x (k := 2) (by decide) (fi f) y]
          exact stp_mono 2 (by decide) (by decide) _ a4 _ c4 0 (by decide) 0 (by decide) ha rfl
        · have hse := h3 ⟨by omega, by omega⟩
          have hb := ih _ hse (Nat.lt_trans hse hf) (s3 (by omega))
          have b4 := wv_lt h.1.2.2.2.2.2.2 x _ (Nat.lt_trans hse hf)
          have d4 := wv_lt h.1.2.2.2.2.2.2 y _ (Nat.lt_trans hse hf)
          rw [wv_k (v := x) rfl hfi (Or.inl hse), wv_k (v := y) rfl hfi (Or.inl hse), if_neg (by omega), if_neg (by omega), stp_x (by omega), stp_x (k := kd f) (by omega) (fi f) y]
          exact stp_mono _ s7 (by omega) _ a4 _ c4 _ b4 _ d4 ha hb
theorem gG_mono (h : REL n kd fi se sd ts fs tr sy rp lt ru lg lp) (w : Nat) {x y : Nat} (hxy : ∀ a, a < 6 → dg x a ||| dg y a = dg y a) {a : Nat} (ha : a < 6) : gG sy (wv kd fi se) ru w x a ||| gG sy (wv kd fi se) ru w y a = gG sy (wv kd fi se) ru w y a := by
  unfold gG
  cases e : ru a with
  | none => exact Nat.or_self _
  | some f =>
    have := wv_mono h hxy f (h.1.2.2.2.2.2.1 a f ha e) (h.2.2.2.2.2.2 a f ha e)
    show (gbS sy w a 6 ||| wv kd fi se f x) ||| (gbS sy w a 6 ||| wv kd fi se f y) = gbS sy w a 6 ||| wv kd fi se f y
    rw [Nat.or_assoc, ← Nat.or_assoc (wv kd fi se f x), Nat.or_comm (wv kd fi se f x), Nat.or_assoc, this, ← Nat.or_assoc, Nat.or_self]
theorem mIt_up (h : REL n kd fi se sd ts fs tr sy rp lt ru lg lp) (w : Nat) : ∀ r a, a < 6 → dg (mIt sy (wv kd fi se) ru w r) a ||| dg (mIt sy (wv kd fi se) ru w (r + 1)) a = dg (mIt sy (wv kd fi se) ru w (r + 1)) a
  | 0, a, ha => by
    show dg (bgS (fun a => gbS sy w a 6) 6) a ||| dg (bgS (gG sy (wv kd fi se) ru w _) 6) a = dg (bgS (gG sy (wv kd fi se) ru w _) 6) a
    rw [dg_bg (g := fun a => gbS sy w a 6) (fun a ha => gbS_lt h.1.2.2.1 ha 6 (Nat.le_refl 6)) ha, dg_bg (gG_lt h.1 w _) ha]
    unfold gG
    rw [← Nat.or_assoc, Nat.or_self]
  | r + 1, a, ha => by
    show dg (bgS (gG sy (wv kd fi se) ru w (mIt sy (wv kd fi se) ru w r)) 6) a ||| dg (bgS (gG sy (wv kd fi se) ru w (mIt sy (wv kd fi se) ru w (r + 1))) 6) a = dg (bgS (gG sy (wv kd fi se) ru w (mIt sy (wv kd fi se) ru w (r + 1))) 6) a
    rw [dg_bg (gG_lt h.1 w _) ha, dg_bg (gG_lt h.1 w _) ha]
    exact gG_mono h w (mIt_up h w r) ha
theorem mIt_or (h : REL n kd fi se sd ts fs tr sy rp lt ru lg lp) (w r : Nat) : mIt sy (wv kd fi se) ru w r ||| mIt sy (wv kd fi se) ru w (r + 1) = mIt sy (wv kd fi se) ru w (r + 1) :=
  ext6 (Nat.or_lt_two_pow (n := 12) (mIt_lt h.1 w r) (mIt_lt h.1 w (r + 1))) (mIt_lt h.1 w (r + 1)) (fun a ha => by rw [dg_or]; exact mIt_up h w r a ha)
theorem pop_up {x y : Nat} (hx : x < 4096) (hy : y < 4096) (hs : x ||| y = y) (hn : ¬ y = x) : fb_ct (fun i => Nat.testBit x i) 12 < fb_ct (fun i => Nat.testBit y i) 12 := by
  have hsub : ∀ i, x.testBit i = true → y.testBit i = true := fun i hi => by
    rw [← hs, Nat.testBit_or, hi]; rfl
  have hd : ∃ i, i < 12 ∧ x.testBit i = false ∧ y.testBit i = true := by
    rcases Classical.em (∃ i, i < 12 ∧ x.testBit i = false ∧ y.testBit i = true) with q | q
    · exact q
    · refine absurd (Nat.eq_of_testBit_eq (fun i => ?_)) hn
      rcases Nat.lt_or_ge i 12 with hi | hi
      · cases e : x.testBit i
        · exact ts_nt (fun z => q ⟨i, hi, e, z⟩)
        · exact hsub i e
      · have p : 2 ^ 12 ≤ 2 ^ i := Nat.pow_le_pow_right (by decide) hi
        rw [Nat.testBit_lt_two_pow (Nat.lt_of_lt_of_le hx p), Nat.testBit_lt_two_pow (Nat.lt_of_lt_of_le hy p)]
  obtain ⟨i, hi, h1, h2⟩ := hd
  have e1 : fb_ct (fun k => if k = i then true else Nat.testBit x k) 12 + (if x.testBit i = true then 1 else 0) = fb_ct (fun j => Nat.testBit x j) 12 + 1 := fb_ct_upd (fun j => Nat.testBit x j) true hi
  rw [h1, if_neg (by decide)] at e1
  have e2 : fb_ct (fun k => if k = i then true else Nat.testBit x k) 12 ≤ fb_ct (fun j => Nat.testBit y j) 12 := fb_ct_sub (fun k hk hq => by
    by_cases e : k = i
    · rw [e]; exact h2
    · simp [e] at hq
      exact hsub k hq)
  omega
theorem mIt_end (h : REL n kd fi se sd ts fs tr sy rp lt ru lg lp) (w : Nat) : mIt sy (wv kd fi se) ru w 13 = mIt sy (wv kd fi se) ru w 12 := by
  rcases Classical.em (mIt sy (wv kd fi se) ru w 13 = mIt sy (wv kd fi se) ru w 12) with q | q
  · exact q
  · exfalso
    have hne : ∀ r, r ≤ 12 → ¬ mIt sy (wv kd fi se) ru w (r + 1) = mIt sy (wv kd fi se) ru w r := fun r hr z => by
      have e1 := mIt_at z (k := 13) (by omega)
      have e2 := mIt_at z (k := 12) hr
      exact q (e1.trans e2.symm)
    have key : ∀ r, r ≤ 13 → r ≤ fb_ct (fun i => Nat.testBit (mIt sy (wv kd fi se) ru w r) i) 12 := by
      intro r
      induction r with
      | zero => intro _; exact Nat.zero_le _
      | succ r ih =>
        intro hr
        have h1 := ih (by omega)
        have h2 := pop_up (mIt_lt h.1 w r) (mIt_lt h.1 w (r + 1)) (mIt_or h w r) (hne r (by omega))
        omega
    have h3 := key 13 (Nat.le_refl _)
    have h4 := fb_ct_le (fun i => Nat.testBit (mIt sy (wv kd fi se) ru w 13) i) 12
    omega
end RL
