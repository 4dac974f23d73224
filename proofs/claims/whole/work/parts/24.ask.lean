section
variable (l : Launch) (D : va_G) (ad : Nat → Nat) (cI cZ cJ : ClassId) (n : Nat) (kd : Nat → Nat) (sd : Nat → Bool) (ts fs : Nat → Int64) (tr : Nat → Nat) (on : Nat → Bool) (rp : Nat → Nat) (lt : Nat) (ru : Nat → Option Nat) (lg : Nat) (lp : Int64)
def rm_X0_given : Room := { frames := 2, cells := 0, slots := 0, locals := 43 }
set_option maxHeartbeats 4000000 in
set_option maxRecDepth 100000 in
theorem c_X0_given (hO : OKC n tr rp lt lg ru) (a : Nat) (ha : a < 6) : PuI l yX0_given wsX0_given rm_X0_given D vwCl (wC ad cI cZ cJ n kd sd ts fs tr on rp lt ru lg lp) (tyC cI cZ cJ) [.ref (ad 0), .int (nI a)] (nI (dg (gsS rp (hsS tr on lt 6) 6) a)) := by
  refine PuI.of (cc := cX0_given) (maxL := 2) (by decide) rfl (Nat.le_of_ble_eq_true rfl) (vp_nar_int _) ?_
  intro p e s m args below meth c Q ls hx hb hml hown hts hP hK kret hl
  have hown : s.vm.findClass RX0 = some m.cls := hown
  have hl : lv_has ls 2 [(0, .ref (ad 0)), (1, .int (nI a))] := hl
  have hS : va_S (fun _ => False) s.heap s.heap [] := va_S.rf
  have hh0 : hsS tr on lt 6 < 64 := hsS_lt tr on lt 6 (Nat.le_refl 6)
  have hg0 : gsS rp (hsS tr on lt 6) 6 < 4096 := gsS_lt hO.2.2.1 _ 6 (Nat.le_refl 6)
  have hit : ∀ r, itS (lkN ts fs) ru (gsS rp (hsS tr on lt 6) 6) r < 4096 := itS_lt (lkN_lt ts fs) ru hg0
  refine lv_iload_n hx hb dX0_given_0 rfl (lv_at hl 1 rfl) ?_
  refine puV_S (own := RX0) (As := [.int (nI a)]) (rest := []) ⟨hx, hb, hml, hown, hts⟩ (c_X0_requireAtom l D a (by omega)) gX0_given_X0_requireAtom rfl ⟨rfl, rfl⟩ 1 rfl (by decide +kernel) ⟨Nat.le_of_ble_eq_true rfl, Nat.le_of_ble_eq_true rfl⟩ nilP (hK.sub (tys' := []) [] rfl) hS hl.1 rfl (Nat.le_of_ble_eq_true rfl) dX0_given_1 ⟨Nat.zero_le _, Nat.zero_le _⟩ (fun H locs hk1 hS => ?_)
  replace hP := keptP hP hk1
  refine lv_aload_n hx hb dX0_given_4 rfl (lv_at hl 0 rfl) ?_
  refine lv_aload_n hx hb dX0_given_5 rfl (lv_at hl 0 rfl) ?_
  refine puI_V (own := RX0) (As := []) (rest := [.ref (ad 0)]) (C := RX0) (ci := 0) (q0 := 0) ⟨hx, hb, hml, hown, hts⟩ (c_X0_heard l D ad cI cZ cJ n kd sd ts fs tr on rp lt ru lg lp hO) gX0_given_X0_heard rfl ⟨rfl, rfl⟩ 0 rfl (by decide +kernel) ⟨Nat.le_of_ble_eq_true rfl, Nat.le_of_ble_eq_true rfl⟩ hP hK rfl rfl rfl hS hl.1 rfl (Nat.le_of_ble_eq_true rfl) dX0_given_6 ⟨Nat.zero_le _, Nat.zero_le _⟩ (fun H locs hk1 hS => ?_)
  replace hP := keptP hP hk1
  refine puI_V (own := RX0) (As := [.int (nI (hsS tr on lt 6))]) (rest := []) (C := RX0) (ci := 0) (q0 := 0) ⟨hx, hb, hml, hown, hts⟩ (c_X0_givenState l D ad cI cZ cJ n kd sd ts fs tr on rp lt ru lg lp hO (hsS tr on lt 6) hh0) gX0_given_X0_givenState rfl ⟨rfl, rfl⟩ 1 rfl (by decide +kernel) ⟨Nat.le_of_ble_eq_true rfl, Nat.le_of_ble_eq_true rfl⟩ hP hK rfl rfl rfl hS hl.1 rfl (Nat.le_of_ble_eq_true rfl) dX0_given_9 ⟨Nat.zero_le _, Nat.zero_le _⟩ (fun H locs hk1 hS => ?_)
  replace hP := keptP hP hk1
  refine lv_iload_n hx hb dX0_given_12 rfl (lv_at hl 1 rfl) ?_
  refine puI_S (own := RX0) (As := [.int (nI (gsS rp (hsS tr on lt 6) 6)), .int (nI a)]) (rest := []) ⟨hx, hb, hml, hown, hts⟩ (c_X0_valueIn l D (gsS rp (hsS tr on lt 6) 6) a hg0 (by omega)) gX0_given_X0_valueIn rfl ⟨rfl, rfl⟩ 2 rfl (by decide +kernel) ⟨Nat.le_of_ble_eq_true rfl, Nat.le_of_ble_eq_true rfl⟩ nilP (hK.sub (tys' := []) [] rfl) hS hl.1 rfl (Nat.le_of_ble_eq_true rfl) dX0_given_13 ⟨Nat.zero_le _, Nat.zero_le _⟩ (fun H locs hk1 hS => ?_)
  replace hP := keptP hP hk1
  exact kret _ _ _ _ _ (rfl) hS dX0_given_16

def rm_X0_settled : Room := { frames := 5, cells := 0, slots := 0, locals := 115 }
set_option maxHeartbeats 4000000 in
set_option maxRecDepth 100000 in
theorem c_X0_settled (hO : OKC n tr rp lt lg ru) (a : Nat) (ha : a < 6) : PuI l yX0_settled wsX0_settled rm_X0_settled D vwCl (wC ad cI cZ cJ n kd sd ts fs tr on rp lt ru lg lp) (tyC cI cZ cJ) [.ref (ad 0), .int (nI a)] (nI (dg (itS (lkN ts fs) ru (gsS rp (hsS tr on lt 6) 6) 12) a)) := by
  refine PuI.of (cc := cX0_settled) (maxL := 2) (by decide) rfl (Nat.le_of_ble_eq_true rfl) (vp_nar_int _) ?_
  intro p e s m args below meth c Q ls hx hb hml hown hts hP hK kret hl
  have hown : s.vm.findClass RX0 = some m.cls := hown
  have hl : lv_has ls 2 [(0, .ref (ad 0)), (1, .int (nI a))] := hl
  have hS : va_S (fun _ => False) s.heap s.heap [] := va_S.rf
  have hh0 : hsS tr on lt 6 < 64 := hsS_lt tr on lt 6 (Nat.le_refl 6)
  have hg0 : gsS rp (hsS tr on lt 6) 6 < 4096 := gsS_lt hO.2.2.1 _ 6 (Nat.le_refl 6)
  have hit : ∀ r, itS (lkN ts fs) ru (gsS rp (hsS tr on lt 6) 6) r < 4096 := itS_lt (lkN_lt ts fs) ru hg0
  refine lv_iload_n hx hb dX0_settled_0 rfl (lv_at hl 1 rfl) ?_
  refine puV_S (own := RX0) (As := [.int (nI a)]) (rest := []) ⟨hx, hb, hml, hown, hts⟩ (c_X0_requireAtom l D a (by omega)) gX0_settled_X0_requireAtom rfl ⟨rfl, rfl⟩ 1 rfl (by decide +kernel) ⟨Nat.le_of_ble_eq_true rfl, Nat.le_of_ble_eq_true rfl⟩ nilP (hK.sub (tys' := []) [] rfl) hS hl.1 rfl (Nat.le_of_ble_eq_true rfl) dX0_settled_1 ⟨Nat.zero_le _, Nat.zero_le _⟩ (fun H locs hk1 hS => ?_)
  replace hP := keptP hP hk1
  refine lv_aload_n hx hb dX0_settled_4 rfl (lv_at hl 0 rfl) ?_
  refine puI_V (own := RX0) (As := []) (rest := []) (C := RX0) (ci := 0) (q0 := 0) ⟨hx, hb, hml, hown, hts⟩ (c_X0_settledNow l D ad cI cZ cJ n kd sd ts fs tr on rp lt ru lg lp hO) gX0_settled_X0_settledNow rfl ⟨rfl, rfl⟩ 0 rfl (by decide +kernel) ⟨Nat.le_of_ble_eq_true rfl, Nat.le_of_ble_eq_true rfl⟩ hP hK rfl rfl rfl hS hl.1 rfl (Nat.le_of_ble_eq_true rfl) dX0_settled_5 ⟨Nat.zero_le _, Nat.zero_le _⟩ (fun H locs hk1 hS => ?_)
  replace hP := keptP hP hk1
  refine lv_iload_n hx hb dX0_settled_8 rfl (lv_at hl 1 rfl) ?_
  refine puI_S (own := RX0) (As := [.int (nI (itS (lkN ts fs) ru (gsS rp (hsS tr on lt 6) 6) 12)), .int (nI a)]) (rest := []) ⟨hx, hb, hml, hown, hts⟩ (c_X0_valueIn l D (itS (lkN ts fs) ru (gsS rp (hsS tr on lt 6) 6) 12) a (hit _) (by omega)) gX0_settled_X0_valueIn rfl ⟨rfl, rfl⟩ 2 rfl (by decide +kernel) ⟨Nat.le_of_ble_eq_true rfl, Nat.le_of_ble_eq_true rfl⟩ nilP (hK.sub (tys' := []) [] rfl) hS hl.1 rfl (Nat.le_of_ble_eq_true rfl) dX0_settled_9 ⟨Nat.zero_le _, Nat.zero_le _⟩ (fun H locs hk1 hS => ?_)
  replace hP := keptP hP hk1
  exact kret _ _ _ _ _ (rfl) hS dX0_settled_12

def rm_X0_rounds : Room := { frames := 3, cells := 0, slots := 0, locals := 70 }
set_option maxHeartbeats 4000000 in
set_option maxRecDepth 100000 in
theorem c_X0_rounds (hO : OKC n tr rp lt lg ru) : PuI l yX0_rounds wsX0_rounds rm_X0_rounds D vwCl (wC ad cI cZ cJ n kd sd ts fs tr on rp lt ru lg lp) (tyC cI cZ cJ) [.ref (ad 0)] (nI (fa_first (fun r => decide (itS (lkN ts fs) ru (gsS rp (hsS tr on lt 6) 6) (r + 1) = itS (lkN ts fs) ru (gsS rp (hsS tr on lt 6) 6) r)) 12)) := by
  refine PuI.of (cc := cX0_rounds) (maxL := 5) (by decide) rfl (Nat.le_of_ble_eq_true rfl) (vp_nar_int _) ?_
  intro p e s m args below meth c Q ls hx hb hml hown hts hP hK kret hl
  have hown : s.vm.findClass RX0 = some m.cls := hown
  have hl : lv_has ls 5 [(0, .ref (ad 0))] := hl
  have hS : va_S (fun _ => False) s.heap s.heap [] := va_S.rf
  have hh0 : hsS tr on lt 6 < 64 := hsS_lt tr on lt 6 (Nat.le_refl 6)
  have hg0 : gsS rp (hsS tr on lt 6) 6 < 4096 := gsS_lt hO.2.2.1 _ 6 (Nat.le_refl 6)
  have hit : ∀ r, itS (lkN ts fs) ru (gsS rp (hsS tr on lt 6) 6) r < 4096 := itS_lt (lkN_lt ts fs) ru hg0
  refine lv_aload_n hx hb dX0_rounds_0 rfl (lv_at hl 0 rfl) ?_
  refine lv_aload_n hx hb dX0_rounds_1 rfl (lv_at hl 0 rfl) ?_
  refine puI_V (own := RX0) (As := []) (rest := [.ref (ad 0)]) (C := RX0) (ci := 0) (q0 := 0) ⟨hx, hb, hml, hown, hts⟩ (c_X0_heard l D ad cI cZ cJ n kd sd ts fs tr on rp lt ru lg lp hO) gX0_rounds_X0_heard rfl ⟨rfl, rfl⟩ 0 rfl (by decide +kernel) ⟨Nat.le_of_ble_eq_true rfl, Nat.le_of_ble_eq_true rfl⟩ hP hK rfl rfl rfl hS hl.1 rfl (Nat.le_of_ble_eq_true rfl) dX0_rounds_2 ⟨Nat.zero_le _, Nat.zero_le _⟩ (fun H locs hk1 hS => ?_)
  replace hP := keptP hP hk1
  refine puI_V (own := RX0) (As := [.int (nI (hsS tr on lt 6))]) (rest := []) (C := RX0) (ci := 0) (q0 := 0) ⟨hx, hb, hml, hown, hts⟩ (c_X0_givenState l D ad cI cZ cJ n kd sd ts fs tr on rp lt ru lg lp hO (hsS tr on lt 6) hh0) gX0_rounds_X0_givenState rfl ⟨rfl, rfl⟩ 1 rfl (by decide +kernel) ⟨Nat.le_of_ble_eq_true rfl, Nat.le_of_ble_eq_true rfl⟩ hP hK rfl rfl rfl hS hl.1 rfl (Nat.le_of_ble_eq_true rfl) dX0_rounds_5 ⟨Nat.zero_le _, Nat.zero_le _⟩ (fun H locs hk1 hS => ?_)
  replace hP := keptP hP hk1
  refine lv_istore_n (lv' := [(1, .int (nI (gsS rp (hsS tr on lt 6) 6))), (0, .ref (ad 0))]) hx hb dX0_rounds_8 rfl hl (by decide) rfl (fun ls hl => ?_)
  refine lv_iload_n hx hb dX0_rounds_9 rfl (lv_at hl 0 rfl) ?_
  refine lv_istore_n (lv' := [(2, .int (nI (gsS rp (hsS tr on lt 6) 6))), (1, .int (nI (gsS rp (hsS tr on lt 6) 6))), (0, .ref (ad 0))]) hx hb dX0_rounds_10 rfl hl (by decide) rfl (fun ls hl => ?_)
  refine lv_iconst (v := nI 0) hx hb dX0_rounds_11 (by decide) ?_
  refine lv_istore_n (lv' := [(3, .int (nI 0)), (2, .int (nI (gsS rp (hsS tr on lt 6) 6))), (1, .int (nI (gsS rp (hsS tr on lt 6) 6))), (0, .ref (ad 0))]) hx hb dX0_rounds_12 rfl hl (by decide) rfl (fun ls hl => ?_)
  have key1 : ∀ (d3 i2 : Nat), i2 + d3 = 12 → (∀ j, j < i2 → (fun r => decide (itS (lkN ts fs) ru (gsS rp (hsS tr on lt 6) 6) (r + 1) = itS (lkN ts fs) ru (gsS rp (hsS tr on lt 6) 6) r)) j = false) → ∀ (H : Heap) (locs : List Loc) (ls : Array Slot), va_P D vwCl (wC ad cI cZ cJ n kd sd ts fs tr on rp lt ru lg lp) H → va_S (fun _ => False) s.heap H locs → lv_has ls 5 [(3, .int (nI i2)), (2, .int (nI (itS (lkN ts fs) ru (gsS rp (hsS tr on lt 6) 6) i2))), (1, .int (nI (gsS rp (hsS tr on lt 6) 6))), (0, .ref (ad 0))] → W p l e rm_X0_rounds s m args below meth c H locs 0 0 Q (F0 m 13 ls []) := by
    intro d3
    induction d3 with
    | zero =>
      intro i2 hi_i2 hinv_i2 H locs ls hP hS hl
      obtain rfl : i2 = 12 := by omega
      refine lv_iload_n hx hb dX0_rounds_13 rfl (lv_at hl 0 rfl) ?_
      refine lv_bipush (v := nI 12) hx hb dX0_rounds_14 (by decide) ?_
      refine cT_ge (tgt := 44) hx hb dX0_rounds_16 (by decide) (nI_le (by omega) (by omega)) ?_
      refine lv_bipush (v := nI 12) hx hb dX0_rounds_44 (by decide) ?_
      exact kret _ _ _ _ _ (by rw [ff_none hinv_i2]) hS dX0_rounds_46
    | succ d3 ih_i2 =>
      intro i2 hi_i2 hinv_i2 H locs ls hP hS hl
      refine lv_iload_n hx hb dX0_rounds_13 rfl (lv_at hl 0 rfl) ?_
      refine lv_bipush (v := nI 12) hx hb dX0_rounds_14 (by decide) ?_
      refine cF_ge (tgt := 44) hx hb dX0_rounds_16 (by decide) (nI_ge (by omega) (by omega)) ?_
      refine lv_aload_n hx hb dX0_rounds_19 rfl (lv_at hl 3 rfl) ?_
      refine lv_iload_n hx hb dX0_rounds_20 rfl (lv_at hl 2 rfl) ?_
      refine lv_iload_n hx hb dX0_rounds_21 rfl (lv_at hl 1 rfl) ?_
      refine puI_V (own := RX0) (As := [.int (nI (gsS rp (hsS tr on lt 6) 6)), .int (nI (itS (lkN ts fs) ru (gsS rp (hsS tr on lt 6) 6) i2))]) (rest := []) (C := RX0) (ci := 0) (q0 := 0) ⟨hx, hb, hml, hown, hts⟩ (c_X0_nextState l D ad cI cZ cJ n kd sd ts fs tr on rp lt ru lg lp hO (gsS rp (hsS tr on lt 6) 6) (itS (lkN ts fs) ru (gsS rp (hsS tr on lt 6) 6) i2) (hit _)) gX0_rounds_X0_nextState rfl ⟨rfl, rfl⟩ 2 rfl (by decide +kernel) ⟨Nat.le_of_ble_eq_true rfl, Nat.le_of_ble_eq_true rfl⟩ hP hK rfl rfl rfl hS hl.1 rfl (Nat.le_of_ble_eq_true rfl) dX0_rounds_22 ⟨Nat.zero_le _, Nat.zero_le _⟩ (fun H locs hk1 hS => ?_)
      replace hP := keptP hP hk1
      refine lv_istore (lv' := [(4, .int (nI (nxS (lkN ts fs) ru (gsS rp (hsS tr on lt 6) 6) (itS (lkN ts fs) ru (gsS rp (hsS tr on lt 6) 6) i2) 6))), (3, .int (nI i2)), (2, .int (nI (itS (lkN ts fs) ru (gsS rp (hsS tr on lt 6) 6) i2))), (1, .int (nI (gsS rp (hsS tr on lt 6) 6))), (0, .ref (ad 0))]) hx hb dX0_rounds_25 hl (by decide) rfl (fun ls hl => ?_)
      refine lv_iload hx hb dX0_rounds_27 (lv_at hl 0 rfl) ?_
      refine lv_iload_n hx hb dX0_rounds_29 rfl (lv_at hl 2 rfl) ?_
      refine lv_icmp_ne (tgt := 35) hx hb dX0_rounds_30 (by decide) (fun c_4 => ?_) (fun c_4 => ?_)
      · have e_30 : (fun r => decide (itS (lkN ts fs) ru (gsS rp (hsS tr on lt 6) 6) (r + 1) = itS (lkN ts fs) ru (gsS rp (hsS tr on lt 6) 6) r)) i2 = false := decide_eq_false (fun q => c_4 (congrArg nI q))
        refine lv_iload hx hb dX0_rounds_35 (lv_at hl 0 rfl) ?_
        refine lv_istore_n (lv' := [(2, .int (nI (nxS (lkN ts fs) ru (gsS rp (hsS tr on lt 6) 6) (itS (lkN ts fs) ru (gsS rp (hsS tr on lt 6) 6) i2) 6))), (4, .int (nI (nxS (lkN ts fs) ru (gsS rp (hsS tr on lt 6) 6) (itS (lkN ts fs) ru (gsS rp (hsS tr on lt 6) 6) i2) 6))), (3, .int (nI i2)), (1, .int (nI (gsS rp (hsS tr on lt 6) 6))), (0, .ref (ad 0))]) hx hb dX0_rounds_37 rfl hl (by decide) rfl (fun ls hl => ?_)
        refine lv_iinc (v := nI (i2 + 1)) (lv' := [(3, .int (nI (i2 + 1))), (2, .int (nI (nxS (lkN ts fs) ru (gsS rp (hsS tr on lt 6) 6) (itS (lkN ts fs) ru (gsS rp (hsS tr on lt 6) 6) i2) 6))), (4, .int (nI (nxS (lkN ts fs) ru (gsS rp (hsS tr on lt 6) 6) (itS (lkN ts fs) ru (gsS rp (hsS tr on lt 6) 6) i2) 6))), (1, .int (nI (gsS rp (hsS tr on lt 6) 6))), (0, .ref (ad 0))]) hx hb dX0_rounds_38 hl (k := 2) rfl (iinc1 _) (by decide) rfl (fun ls hl => ?_)
        refine lv_goto (tgt := 13) hx hb dX0_rounds_41 (by decide) ?_
        exact ih_i2 (i2 + 1) (by omega) (lt_s hinv_i2 e_30) H locs ls hP hS (lv_sub hl [0, 1, 3, 4] rfl)
      · have e_30 : (fun r => decide (itS (lkN ts fs) ru (gsS rp (hsS tr on lt 6) 6) (r + 1) = itS (lkN ts fs) ru (gsS rp (hsS tr on lt 6) 6) r)) i2 = true := decide_eq_true ((nI_eq (Nat.lt_trans (hit (i2 + 1)) (by decide)) (Nat.lt_trans (hit _) (by decide))).mp c_4)
        refine lv_iload_n hx hb dX0_rounds_33 rfl (lv_at hl 1 rfl) ?_
        exact kret _ _ _ _ _ (by rw [ff_at (by omega) e_30 hinv_i2]) hS dX0_rounds_34
  exact key1 (12) 0 (by omega) lt_0 _ _ ls hP hS (lv_sub hl [0, 1, 2, 3] rfl)

def rm_X0_since : Room := { frames := 3, cells := 0, slots := 0, locals := 70 }
set_option maxHeartbeats 4000000 in
set_option maxRecDepth 100000 in
theorem c_X0_since (hO : OKC n tr rp lt lg ru) (a : Nat) (b : Bool) (ha : a < 6) : PuI l yX0_since wsX0_since rm_X0_since D vwCl (wC ad cI cZ cJ n kd sd ts fs tr on rp lt ru lg lp) (tyC cI cZ cJ) [.ref (ad 0), .int (nI a), .int (bI b)] (rI (ffO (fun r => told (dg (itS (lkN ts fs) ru (gsS rp (hsS tr on lt 6) 6) r) a) b) 13)) := by
  refine PuI.of (cc := cX0_since) (maxL := 6) (by decide) rfl (Nat.le_of_ble_eq_true rfl) (vp_nar_int _) ?_
  intro p e s m args below meth c Q ls hx hb hml hown hts hP hK kret hl
  have hown : s.vm.findClass RX0 = some m.cls := hown
  have hl : lv_has ls 6 [(0, .ref (ad 0)), (1, .int (nI a)), (2, .int (bI b))] := hl
  have hS : va_S (fun _ => False) s.heap s.heap [] := va_S.rf
  have hh0 : hsS tr on lt 6 < 64 := hsS_lt tr on lt 6 (Nat.le_refl 6)
  have hg0 : gsS rp (hsS tr on lt 6) 6 < 4096 := gsS_lt hO.2.2.1 _ 6 (Nat.le_refl 6)
  have hit : ∀ r, itS (lkN ts fs) ru (gsS rp (hsS tr on lt 6) 6) r < 4096 := itS_lt (lkN_lt ts fs) ru hg0
  refine lv_iload_n hx hb dX0_since_0 rfl (lv_at hl 1 rfl) ?_
  refine puV_S (own := RX0) (As := [.int (nI a)]) (rest := []) ⟨hx, hb, hml, hown, hts⟩ (c_X0_requireAtom l D a (by omega)) gX0_since_X0_requireAtom rfl ⟨rfl, rfl⟩ 1 rfl (by decide +kernel) ⟨Nat.le_of_ble_eq_true rfl, Nat.le_of_ble_eq_true rfl⟩ nilP (hK.sub (tys' := []) [] rfl) hS hl.1 rfl (Nat.le_of_ble_eq_true rfl) dX0_since_1 ⟨Nat.zero_le _, Nat.zero_le _⟩ (fun H locs hk1 hS => ?_)
  replace hP := keptP hP hk1
  refine lv_aload_n hx hb dX0_since_4 rfl (lv_at hl 0 rfl) ?_
  refine lv_aload_n hx hb dX0_since_5 rfl (lv_at hl 0 rfl) ?_
  refine puI_V (own := RX0) (As := []) (rest := [.ref (ad 0)]) (C := RX0) (ci := 0) (q0 := 0) ⟨hx, hb, hml, hown, hts⟩ (c_X0_heard l D ad cI cZ cJ n kd sd ts fs tr on rp lt ru lg lp hO) gX0_since_X0_heard rfl ⟨rfl, rfl⟩ 0 rfl (by decide +kernel) ⟨Nat.le_of_ble_eq_true rfl, Nat.le_of_ble_eq_true rfl⟩ hP hK rfl rfl rfl hS hl.1 rfl (Nat.le_of_ble_eq_true rfl) dX0_since_6 ⟨Nat.zero_le _, Nat.zero_le _⟩ (fun H locs hk1 hS => ?_)
  replace hP := keptP hP hk1
  refine puI_V (own := RX0) (As := [.int (nI (hsS tr on lt 6))]) (rest := []) (C := RX0) (ci := 0) (q0 := 0) ⟨hx, hb, hml, hown, hts⟩ (c_X0_givenState l D ad cI cZ cJ n kd sd ts fs tr on rp lt ru lg lp hO (hsS tr on lt 6) hh0) gX0_since_X0_givenState rfl ⟨rfl, rfl⟩ 1 rfl (by decide +kernel) ⟨Nat.le_of_ble_eq_true rfl, Nat.le_of_ble_eq_true rfl⟩ hP hK rfl rfl rfl hS hl.1 rfl (Nat.le_of_ble_eq_true rfl) dX0_since_9 ⟨Nat.zero_le _, Nat.zero_le _⟩ (fun H locs hk1 hS => ?_)
  replace hP := keptP hP hk1
  refine lv_istore_n (lv' := [(3, .int (nI (gsS rp (hsS tr on lt 6) 6))), (0, .ref (ad 0)), (1, .int (nI a)), (2, .int (bI b))]) hx hb dX0_since_12 rfl hl (by decide) rfl (fun ls hl => ?_)
  refine lv_iload_n hx hb dX0_since_13 rfl (lv_at hl 0 rfl) ?_
  refine lv_istore (lv' := [(4, .int (nI (gsS rp (hsS tr on lt 6) 6))), (3, .int (nI (gsS rp (hsS tr on lt 6) 6))), (0, .ref (ad 0)), (1, .int (nI a)), (2, .int (bI b))]) hx hb dX0_since_14 hl (by decide) rfl (fun ls hl => ?_)
  refine lv_iconst (v := nI 0) hx hb dX0_since_16 (by decide) ?_
  refine lv_istore (lv' := [(5, .int (nI 0)), (4, .int (nI (gsS rp (hsS tr on lt 6) 6))), (3, .int (nI (gsS rp (hsS tr on lt 6) 6))), (0, .ref (ad 0)), (1, .int (nI a)), (2, .int (bI b))]) hx hb dX0_since_17 hl (by decide) rfl (fun ls hl => ?_)
  have key1 : ∀ (d3 i2 : Nat), i2 + d3 = 13 → (∀ j, j < i2 → (fun r => told (dg (itS (lkN ts fs) ru (gsS rp (hsS tr on lt 6) 6) r) a) b) j = false) → ∀ (H : Heap) (locs : List Loc) (ls : Array Slot), va_P D vwCl (wC ad cI cZ cJ n kd sd ts fs tr on rp lt ru lg lp) H → va_S (fun _ => False) s.heap H locs → lv_has ls 6 [(5, .int (nI i2)), (4, .int (nI (itS (lkN ts fs) ru (gsS rp (hsS tr on lt 6) 6) i2))), (3, .int (nI (gsS rp (hsS tr on lt 6) 6))), (0, .ref (ad 0)), (1, .int (nI a)), (2, .int (bI b))] → W p l e rm_X0_since s m args below meth c H locs 0 0 Q (F0 m 19 ls []) := by
    intro d3
    induction d3 with
    | zero =>
      intro i2 hi_i2 hinv_i2 H locs ls hP hS hl
      obtain rfl : i2 = 13 := by omega
      refine lv_iload hx hb dX0_since_19 (lv_at hl 0 rfl) ?_
      refine lv_bipush (v := nI 12) hx hb dX0_since_21 (by decide) ?_
      refine cT_gt (tgt := 57) hx hb dX0_since_23 (by decide) (nI_lt (by omega) (by omega)) ?_
      refine lv_iconst (v := (-1)) hx hb dX0_since_57 (by decide) ?_
      exact kret _ _ _ _ _ (by rw [ffO_none hinv_i2]; rfl) hS dX0_since_58
    | succ d3 ih_i2 =>
      intro i2 hi_i2 hinv_i2 H locs ls hP hS hl
      refine lv_iload hx hb dX0_since_19 (lv_at hl 0 rfl) ?_
      refine lv_bipush (v := nI 12) hx hb dX0_since_21 (by decide) ?_
      refine cF_gt (tgt := 57) hx hb dX0_since_23 (by decide) (nI_nlt (by omega) (by omega)) ?_
      refine lv_iload hx hb dX0_since_26 (lv_at hl 1 rfl) ?_
      refine lv_iload_n hx hb dX0_since_28 rfl (lv_at hl 4 rfl) ?_
      refine puI_S (own := RX0) (As := [.int (nI (itS (lkN ts fs) ru (gsS rp (hsS tr on lt 6) 6) i2)), .int (nI a)]) (rest := []) ⟨hx, hb, hml, hown, hts⟩ (c_X0_valueIn l D (itS (lkN ts fs) ru (gsS rp (hsS tr on lt 6) 6) i2) a (hit _) (by omega)) gX0_since_X0_valueIn rfl ⟨rfl, rfl⟩ 2 rfl (by decide +kernel) ⟨Nat.le_of_ble_eq_true rfl, Nat.le_of_ble_eq_true rfl⟩ nilP (hK.sub (tys' := []) [] rfl) hS hl.1 rfl (Nat.le_of_ble_eq_true rfl) dX0_since_29 ⟨Nat.zero_le _, Nat.zero_le _⟩ (fun H locs hk1 hS => ?_)
      replace hP := keptP hP hk1
      refine lv_iload_n hx hb dX0_since_32 rfl (lv_at hl 5 rfl) ?_
      refine puI_S (own := RX0) (As := [.int (nI (dg (itS (lkN ts fs) ru (gsS rp (hsS tr on lt 6) 6) i2) a)), .int (bI b)]) (rest := []) ⟨hx, hb, hml, hown, hts⟩ (c_X0_isTold l D (dg (itS (lkN ts fs) ru (gsS rp (hsS tr on lt 6) 6) i2) a) b (dg_lt _ _)) gX0_since_X0_isTold rfl ⟨rfl, rfl⟩ 2 rfl (by decide +kernel) ⟨Nat.le_of_ble_eq_true rfl, Nat.le_of_ble_eq_true rfl⟩ nilP (hK.sub (tys' := []) [] rfl) hS hl.1 rfl (Nat.le_of_ble_eq_true rfl) dX0_since_33 ⟨Nat.zero_le _, Nat.zero_le _⟩ (fun H locs hk1 hS => ?_)
      replace hP := keptP hP hk1
      refine lv_if_eq (tgt := 42) hx hb dX0_since_36 (by decide) (fun c_4 => ?_) (fun c_4 => ?_)
      · have e_36 := bI_0 c_4
        refine lv_aload_n hx hb dX0_since_42 rfl (lv_at hl 3 rfl) ?_
        refine lv_iload_n hx hb dX0_since_43 rfl (lv_at hl 2 rfl) ?_
        refine lv_iload hx hb dX0_since_44 (lv_at hl 1 rfl) ?_
        refine puI_V (own := RX0) (As := [.int (nI (gsS rp (hsS tr on lt 6) 6)), .int (nI (itS (lkN ts fs) ru (gsS rp (hsS tr on lt 6) 6) i2))]) (rest := []) (C := RX0) (ci := 0) (q0 := 0) ⟨hx, hb, hml, hown, hts⟩ (c_X0_nextState l D ad cI cZ cJ n kd sd ts fs tr on rp lt ru lg lp hO (gsS rp (hsS tr on lt 6) 6) (itS (lkN ts fs) ru (gsS rp (hsS tr on lt 6) 6) i2) (hit _)) gX0_since_X0_nextState rfl ⟨rfl, rfl⟩ 2 rfl (by decide +kernel) ⟨Nat.le_of_ble_eq_true rfl, Nat.le_of_ble_eq_true rfl⟩ hP hK rfl rfl rfl hS hl.1 rfl (Nat.le_of_ble_eq_true rfl) dX0_since_46 ⟨Nat.zero_le _, Nat.zero_le _⟩ (fun H locs hk1 hS => ?_)
        replace hP := keptP hP hk1
        refine lv_istore (lv' := [(4, .int (nI (nxS (lkN ts fs) ru (gsS rp (hsS tr on lt 6) 6) (itS (lkN ts fs) ru (gsS rp (hsS tr on lt 6) 6) i2) 6))), (5, .int (nI i2)), (3, .int (nI (gsS rp (hsS tr on lt 6) 6))), (0, .ref (ad 0)), (1, .int (nI a)), (2, .int (bI b))]) hx hb dX0_since_49 hl (by decide) rfl (fun ls hl => ?_)
        refine lv_iinc (v := nI (i2 + 1)) (lv' := [(5, .int (nI (i2 + 1))), (4, .int (nI (nxS (lkN ts fs) ru (gsS rp (hsS tr on lt 6) 6) (itS (lkN ts fs) ru (gsS rp (hsS tr on lt 6) 6) i2) 6))), (3, .int (nI (gsS rp (hsS tr on lt 6) 6))), (0, .ref (ad 0)), (1, .int (nI a)), (2, .int (bI b))]) hx hb dX0_since_51 hl (k := 1) rfl (iinc1 _) (by decide) rfl (fun ls hl => ?_)
        refine lv_goto (tgt := 19) hx hb dX0_since_54 (by decide) ?_
        exact ih_i2 (i2 + 1) (by omega) (lt_s hinv_i2 e_36) H locs ls hP hS (lv_sub hl [0, 1, 2, 3, 4, 5] rfl)
      · have e_36 := bI_1 c_4
        refine lv_iload hx hb dX0_since_39 (lv_at hl 0 rfl) ?_
        exact kret _ _ _ _ _ (by rw [ffO_at (by omega) e_36 hinv_i2]; rfl) hS dX0_since_41
  exact key1 (13) 0 (by omega) lt_0 _ _ ls hP hS (lv_sub hl [0, 1, 2, 3, 4, 5] rfl)

def rm_X0_value : Room := { frames := 5, cells := 0, slots := 0, locals := 115 }
set_option maxHeartbeats 4000000 in
set_option maxRecDepth 100000 in
theorem c_X0_value (hO : OKC n tr rp lt lg ru) (f : Nat) (hf : f < n) : PuI l yX0_value wsX0_value rm_X0_value D vwCl (wC ad cI cZ cJ n kd sd ts fs tr on rp lt ru lg lp) (tyC cI cZ cJ) [.ref (ad 0), .int (nI f)] (nI (lkN ts fs f (itS (lkN ts fs) ru (gsS rp (hsS tr on lt 6) 6) 12))) := by
  refine PuI.of (cc := cX0_value) (maxL := 2) (by decide) rfl (Nat.le_of_ble_eq_true rfl) (vp_nar_int _) ?_
  intro p e s m args below meth c Q ls hx hb hml hown hts hP hK kret hl
  have hown : s.vm.findClass RX0 = some m.cls := hown
  have hl : lv_has ls 2 [(0, .ref (ad 0)), (1, .int (nI f))] := hl
  have hS : va_S (fun _ => False) s.heap s.heap [] := va_S.rf
  have hh0 : hsS tr on lt 6 < 64 := hsS_lt tr on lt 6 (Nat.le_refl 6)
  have hg0 : gsS rp (hsS tr on lt 6) 6 < 4096 := gsS_lt hO.2.2.1 _ 6 (Nat.le_refl 6)
  have hit : ∀ r, itS (lkN ts fs) ru (gsS rp (hsS tr on lt 6) 6) r < 4096 := itS_lt (lkN_lt ts fs) ru hg0
  have hn40 := hO.1
  refine lv_aload_n hx hb dX0_value_0 rfl (lv_at hl 0 rfl) ?_
  refine lv_iload_n hx hb dX0_value_1 rfl (lv_at hl 1 rfl) ?_
  refine puV_V (own := RX0) (As := [.int (nI f)]) (rest := []) (C := RX0) (ci := 0) (q0 := 0) ⟨hx, hb, hml, hown, hts⟩ (c_X0_requireFormula l D ad cI cZ cJ n kd sd ts fs tr on rp lt ru lg lp hO f (by omega)) gX0_value_X0_requireFormula rfl ⟨rfl, rfl⟩ 1 rfl (by decide +kernel) ⟨Nat.le_of_ble_eq_true rfl, Nat.le_of_ble_eq_true rfl⟩ hP hK rfl rfl rfl hS hl.1 rfl (Nat.le_of_ble_eq_true rfl) dX0_value_2 ⟨Nat.zero_le _, Nat.zero_le _⟩ (fun H locs hk1 hS => ?_)
  replace hP := keptP hP hk1
  refine lv_aload_n hx hb dX0_value_5 rfl (lv_at hl 0 rfl) ?_
  refine lv_iload_n hx hb dX0_value_6 rfl (lv_at hl 1 rfl) ?_
  refine lv_aload_n hx hb dX0_value_7 rfl (lv_at hl 0 rfl) ?_
  refine puI_V (own := RX0) (As := []) (rest := [.int (nI f), .ref (ad 0)]) (C := RX0) (ci := 0) (q0 := 0) ⟨hx, hb, hml, hown, hts⟩ (c_X0_settledNow l D ad cI cZ cJ n kd sd ts fs tr on rp lt ru lg lp hO) gX0_value_X0_settledNow rfl ⟨rfl, rfl⟩ 0 rfl (by decide +kernel) ⟨Nat.le_of_ble_eq_true rfl, Nat.le_of_ble_eq_true rfl⟩ hP hK rfl rfl rfl hS hl.1 rfl (Nat.le_of_ble_eq_true rfl) dX0_value_8 ⟨Nat.zero_le _, Nat.zero_le _⟩ (fun H locs hk1 hS => ?_)
  replace hP := keptP hP hk1
  refine puI_V (own := RX0) (As := [.int (nI f), .int (nI (itS (lkN ts fs) ru (gsS rp (hsS tr on lt 6) 6) 12))]) (rest := []) (C := RX0) (ci := 0) (q0 := 0) ⟨hx, hb, hml, hown, hts⟩ (c_X0_lookUp l D ad cI cZ cJ n kd sd ts fs tr on rp lt ru lg lp f (itS (lkN ts fs) ru (gsS rp (hsS tr on lt 6) 6) 12) (by omega) (hit _)) gX0_value_X0_lookUp rfl ⟨rfl, rfl⟩ 2 rfl (by decide +kernel) ⟨Nat.le_of_ble_eq_true rfl, Nat.le_of_ble_eq_true rfl⟩ hP hK rfl rfl rfl hS hl.1 rfl (Nat.le_of_ble_eq_true rfl) dX0_value_11 ⟨Nat.zero_le _, Nat.zero_le _⟩ (fun H locs hk1 hS => ?_)
  replace hP := keptP hP hk1
  exact kret _ _ _ _ _ (rfl) hS dX0_value_14

def rm_X0_conflicts : Room := { frames := 5, cells := 0, slots := 0, locals := 115 }
set_option maxHeartbeats 4000000 in
set_option maxRecDepth 100000 in
theorem c_X0_conflicts (hO : OKC n tr rp lt lg ru) : PuI l yX0_conflicts wsX0_conflicts rm_X0_conflicts D vwCl (wC ad cI cZ cJ n kd sd ts fs tr on rp lt ru lg lp) (tyC cI cZ cJ) [.ref (ad 0)] (nI (awS (itS (lkN ts fs) ru (gsS rp (hsS tr on lt 6) 6) 12) 3 6)) := by
  refine PuI.of (cc := cX0_conflicts) (maxL := 1) (by decide) rfl (Nat.le_of_ble_eq_true rfl) (vp_nar_int _) ?_
  intro p e s m args below meth c Q ls hx hb hml hown hts hP hK kret hl
  have hown : s.vm.findClass RX0 = some m.cls := hown
  have hl : lv_has ls 1 [(0, .ref (ad 0))] := hl
  have hS : va_S (fun _ => False) s.heap s.heap [] := va_S.rf
  have hh0 : hsS tr on lt 6 < 64 := hsS_lt tr on lt 6 (Nat.le_refl 6)
  have hg0 : gsS rp (hsS tr on lt 6) 6 < 4096 := gsS_lt hO.2.2.1 _ 6 (Nat.le_refl 6)
  have hit : ∀ r, itS (lkN ts fs) ru (gsS rp (hsS tr on lt 6) 6) r < 4096 := itS_lt (lkN_lt ts fs) ru hg0
  refine lv_aload_n hx hb dX0_conflicts_0 rfl (lv_at hl 0 rfl) ?_
  refine puI_V (own := RX0) (As := []) (rest := []) (C := RX0) (ci := 0) (q0 := 0) ⟨hx, hb, hml, hown, hts⟩ (c_X0_settledNow l D ad cI cZ cJ n kd sd ts fs tr on rp lt ru lg lp hO) gX0_conflicts_X0_settledNow rfl ⟨rfl, rfl⟩ 0 rfl (by decide +kernel) ⟨Nat.le_of_ble_eq_true rfl, Nat.le_of_ble_eq_true rfl⟩ hP hK rfl rfl rfl hS hl.1 rfl (Nat.le_of_ble_eq_true rfl) dX0_conflicts_1 ⟨Nat.zero_le _, Nat.zero_le _⟩ (fun H locs hk1 hS => ?_)
  replace hP := keptP hP hk1
  refine lv_iconst (v := nI 3) hx hb dX0_conflicts_4 (by decide) ?_
  refine puI_S (own := RX0) (As := [.int (nI (itS (lkN ts fs) ru (gsS rp (hsS tr on lt 6) 6) 12)), .int (nI 3)]) (rest := []) ⟨hx, hb, hml, hown, hts⟩ (c_X0_atomsWith l D (itS (lkN ts fs) ru (gsS rp (hsS tr on lt 6) 6) 12) 3 (hit _) (by omega)) gX0_conflicts_X0_atomsWith rfl ⟨rfl, rfl⟩ 2 rfl (by decide +kernel) ⟨Nat.le_of_ble_eq_true rfl, Nat.le_of_ble_eq_true rfl⟩ nilP (hK.sub (tys' := []) [] rfl) hS hl.1 rfl (Nat.le_of_ble_eq_true rfl) dX0_conflicts_5 ⟨Nat.zero_le _, Nat.zero_le _⟩ (fun H locs hk1 hS => ?_)
  replace hP := keptP hP hk1
  exact kret _ _ _ _ _ (rfl) hS dX0_conflicts_8

def rm_X0_gaps : Room := { frames := 5, cells := 0, slots := 0, locals := 115 }
set_option maxHeartbeats 4000000 in
set_option maxRecDepth 100000 in
theorem c_X0_gaps (hO : OKC n tr rp lt lg ru) : PuI l yX0_gaps wsX0_gaps rm_X0_gaps D vwCl (wC ad cI cZ cJ n kd sd ts fs tr on rp lt ru lg lp) (tyC cI cZ cJ) [.ref (ad 0)] (nI (awS (itS (lkN ts fs) ru (gsS rp (hsS tr on lt 6) 6) 12) 0 6)) := by
  refine PuI.of (cc := cX0_gaps) (maxL := 1) (by decide) rfl (Nat.le_of_ble_eq_true rfl) (vp_nar_int _) ?_
  intro p e s m args below meth c Q ls hx hb hml hown hts hP hK kret hl
  have hown : s.vm.findClass RX0 = some m.cls := hown
  have hl : lv_has ls 1 [(0, .ref (ad 0))] := hl
  have hS : va_S (fun _ => False) s.heap s.heap [] := va_S.rf
  have hh0 : hsS tr on lt 6 < 64 := hsS_lt tr on lt 6 (Nat.le_refl 6)
  have hg0 : gsS rp (hsS tr on lt 6) 6 < 4096 := gsS_lt hO.2.2.1 _ 6 (Nat.le_refl 6)
  have hit : ∀ r, itS (lkN ts fs) ru (gsS rp (hsS tr on lt 6) 6) r < 4096 := itS_lt (lkN_lt ts fs) ru hg0
  refine lv_aload_n hx hb dX0_gaps_0 rfl (lv_at hl 0 rfl) ?_
  refine puI_V (own := RX0) (As := []) (rest := []) (C := RX0) (ci := 0) (q0 := 0) ⟨hx, hb, hml, hown, hts⟩ (c_X0_settledNow l D ad cI cZ cJ n kd sd ts fs tr on rp lt ru lg lp hO) gX0_gaps_X0_settledNow rfl ⟨rfl, rfl⟩ 0 rfl (by decide +kernel) ⟨Nat.le_of_ble_eq_true rfl, Nat.le_of_ble_eq_true rfl⟩ hP hK rfl rfl rfl hS hl.1 rfl (Nat.le_of_ble_eq_true rfl) dX0_gaps_1 ⟨Nat.zero_le _, Nat.zero_le _⟩ (fun H locs hk1 hS => ?_)
  replace hP := keptP hP hk1
  refine lv_iconst (v := nI 0) hx hb dX0_gaps_4 (by decide) ?_
  refine puI_S (own := RX0) (As := [.int (nI (itS (lkN ts fs) ru (gsS rp (hsS tr on lt 6) 6) 12)), .int (nI 0)]) (rest := []) ⟨hx, hb, hml, hown, hts⟩ (c_X0_atomsWith l D (itS (lkN ts fs) ru (gsS rp (hsS tr on lt 6) 6) 12) 0 (hit _) (by omega)) gX0_gaps_X0_atomsWith rfl ⟨rfl, rfl⟩ 2 rfl (by decide +kernel) ⟨Nat.le_of_ble_eq_true rfl, Nat.le_of_ble_eq_true rfl⟩ nilP (hK.sub (tys' := []) [] rfl) hS hl.1 rfl (Nat.le_of_ble_eq_true rfl) dX0_gaps_5 ⟨Nat.zero_le _, Nat.zero_le _⟩ (fun H locs hk1 hS => ?_)
  replace hP := keptP hP hk1
  exact kret _ _ _ _ _ (rfl) hS dX0_gaps_8

theorem hin_X0_sayers : ∀ w ∈ wsX00, w ∈ wsX0_sayers := by first | exact fun _ h => List.mem_cons_of_mem _ (List.mem_append_right _ h) | exact fun _ h => List.mem_cons_of_mem _ (List.mem_append_left _ (List.mem_append_right _ h)) | exact fun _ h => List.mem_cons_of_mem _ (List.mem_append_left _ (List.mem_append_left _ (List.mem_append_right _ h))) | exact fun _ h => List.mem_cons_of_mem _ (List.mem_append_left _ (List.mem_append_left _ (List.mem_append_left _ (List.mem_append_right _ h)))) | decide +kernel
def rm_X0_sayers : Room := { frames := 2, cells := 0, slots := 0, locals := 41 }
set_option maxHeartbeats 4000000 in
set_option maxRecDepth 100000 in
theorem c_X0_sayers (hO : OKC n tr rp lt lg ru) (a : Nat) (b : Bool) (ha : a < 6) : PuI l yX0_sayers wsX0_sayers rm_X0_sayers D vwCl (wC ad cI cZ cJ n kd sd ts fs tr on rp lt ru lg lp) (tyC cI cZ cJ) [.ref (ad 0), .int (nI a), .int (bI b)] (nI (syS tr on lt (fun s => dg (rp s) a) b 6)) := by
  refine PuI.of (cc := cX0_sayers) (maxL := 5) (by decide) rfl (Nat.le_of_ble_eq_true rfl) (vp_nar_int _) ?_
  intro p e s m args below meth c Q ls hx hb hml hown hts hP hK kret hl
  have hown : s.vm.findClass RX0 = some m.cls := hown
  have hl : lv_has ls 5 [(0, .ref (ad 0)), (1, .int (nI a)), (2, .int (bI b))] := hl
  have hS : va_S (fun _ => False) s.heap s.heap [] := va_S.rf
  have hin0 : ∀ w ∈ u_ws RX0 TX0 12, w ∈ wsX0_sayers := hin_X0_sayers
  refine lv_iload_n hx hb dX0_sayers_0 rfl (lv_at hl 1 rfl) ?_
  refine puV_S (own := RX0) (As := [.int (nI a)]) (rest := []) ⟨hx, hb, hml, hown, hts⟩ (c_X0_requireAtom l D a (by omega)) gX0_sayers_X0_requireAtom rfl ⟨rfl, rfl⟩ 1 rfl (by decide +kernel) ⟨Nat.le_of_ble_eq_true rfl, Nat.le_of_ble_eq_true rfl⟩ nilP (hK.sub (tys' := []) [] rfl) hS hl.1 rfl (Nat.le_of_ble_eq_true rfl) dX0_sayers_1 ⟨Nat.zero_le _, Nat.zero_le _⟩ (fun H locs hk1 hS => ?_)
  replace hP := keptP hP hk1
  refine lv_iconst (v := nI 0) hx hb dX0_sayers_4 (by decide) ?_
  refine lv_istore_n (lv' := [(3, .int (nI 0)), (0, .ref (ad 0)), (1, .int (nI a)), (2, .int (bI b))]) hx hb dX0_sayers_5 rfl hl (by decide) rfl (fun ls hl => ?_)
  refine lv_iconst (v := nI 0) hx hb dX0_sayers_6 (by decide) ?_
  refine lv_istore (lv' := [(4, .int (nI 0)), (3, .int (nI 0)), (0, .ref (ad 0)), (1, .int (nI a)), (2, .int (bI b))]) hx hb dX0_sayers_7 hl (by decide) rfl (fun ls hl => ?_)
  have key1 : ∀ (d3 i2 : Nat), i2 + d3 = 6 → ∀ (H : Heap) (locs : List Loc) (ls : Array Slot), va_P D vwCl (wC ad cI cZ cJ n kd sd ts fs tr on rp lt ru lg lp) H → va_S (fun _ => False) s.heap H locs → lv_has ls 5 [(4, .int (nI i2)), (3, .int (nI (syS tr on lt (fun s => dg (rp s) a) b i2))), (0, .ref (ad 0)), (1, .int (nI a)), (2, .int (bI b))] → W p l e rm_X0_sayers s m args below meth c H locs 0 0 Q (F0 m 9 ls []) := by
    intro d3
    induction d3 with
    | zero =>
      intro i2 hi_i2 H locs ls hP hS hl
      obtain rfl : i2 = 6 := by omega
      refine lv_iload hx hb dX0_sayers_9 (lv_at hl 0 rfl) ?_
      refine lv_bipush (v := nI 6) hx hb dX0_sayers_11 (by decide) ?_
      refine cT_ge (tgt := 56) hx hb dX0_sayers_13 (by decide) (nI_le (by omega) (by omega)) ?_
      refine lv_iload_n hx hb dX0_sayers_56 rfl (lv_at hl 1 rfl) ?_
      exact kret _ _ _ _ _ (rfl) hS dX0_sayers_57
    | succ d3 ih_i2 =>
      intro i2 hi_i2 H locs ls hP hS hl
      refine lv_iload hx hb dX0_sayers_9 (lv_at hl 0 rfl) ?_
      refine lv_bipush (v := nI 6) hx hb dX0_sayers_11 (by decide) ?_
      refine cF_ge (tgt := 56) hx hb dX0_sayers_13 (by decide) (nI_ge (by omega) (by omega)) ?_
      refine lv_aload_n hx hb dX0_sayers_16 rfl (lv_at hl 2 rfl) ?_
      refine lv_iload hx hb dX0_sayers_17 (lv_at hl 0 rfl) ?_
      refine puI_V (own := RX0) (As := [.int (nI i2)]) (rest := []) (C := RX0) (ci := 0) (q0 := 0) ⟨hx, hb, hml, hown, hts⟩ (c_X0_isHeard l D ad cI cZ cJ n kd sd ts fs tr on rp lt ru lg lp hO i2 (by omega)) gX0_sayers_X0_isHeard rfl ⟨rfl, rfl⟩ 1 rfl (by decide +kernel) ⟨Nat.le_of_ble_eq_true rfl, Nat.le_of_ble_eq_true rfl⟩ hP hK rfl rfl rfl hS hl.1 rfl (Nat.le_of_ble_eq_true rfl) dX0_sayers_19 ⟨Nat.zero_le _, Nat.zero_le _⟩ (fun H locs hk1 hS => ?_)
      replace hP := keptP hP hk1
      refine lv_if_eq (tgt := 50) hx hb dX0_sayers_22 (by decide) (fun c_4 => ?_) (fun c_4 => ?_)
      · have e_22 := bI_0 c_4
        refine lv_iinc (v := nI (i2 + 1)) (lv' := [(4, .int (nI (i2 + 1))), (3, .int (nI (syS tr on lt (fun s => dg (rp s) a) b i2))), (0, .ref (ad 0)), (1, .int (nI a)), (2, .int (bI b))]) hx hb dX0_sayers_50 hl (k := 0) rfl (iinc1 _) (by decide) rfl (fun ls hl => ?_)
        refine lv_goto (tgt := 9) hx hb dX0_sayers_53 (by decide) ?_
        exact ih_i2 (i2 + 1) (by omega) H locs ls hP hS (by have h9 := lv_sub hl [0, 1, 2, 3, 4] rfl; rw [show syS tr on lt (fun s => dg (rp s) a) b (i2 + 1) = syS tr on lt (fun s => dg (rp s) a) b i2 from if_neg (by rw [e_22]; simp)]; exact h9)
      · have e_22 := bI_1 c_4
        refine lv_aload_n hx hb dX0_sayers_25 rfl (lv_at hl 2 rfl) ?_
        refine va_get (D := D) (ci := 0) (v := .ref (ad 7)) (C := RX0) (T := TX0) (N := 12) hx hb hts hin0 hown hK hP 0 rfl rfl 7 (by decide) (hts (.fieldLink RX0 34 "RumourReasoner" "reports" "[I") (by decide +kernel)) (fun _ h9 => h9) rfl dX0_sayers_26 ?_
        refine lv_iload hx hb dX0_sayers_29 (lv_at hl 0 rfl) ?_
        refine ld_ni hx hb hK hP 7 0 rfl rfl (j := i2) (by omega) (by decide) dX0_sayers_31 ?_
        refine lv_iload_n hx hb dX0_sayers_32 rfl (lv_at hl 3 rfl) ?_
        refine puI_S (own := RX0) (As := [.int (nI (rp i2)), .int (nI a)]) (rest := []) ⟨hx, hb, hml, hown, hts⟩ (c_X0_valueIn l D (rp i2) a (hO.2.2.1 _ (by omega)) (by omega)) gX0_sayers_X0_valueIn rfl ⟨rfl, rfl⟩ 2 rfl (by decide +kernel) ⟨Nat.le_of_ble_eq_true rfl, Nat.le_of_ble_eq_true rfl⟩ nilP (hK.sub (tys' := []) [] rfl) hS hl.1 rfl (Nat.le_of_ble_eq_true rfl) dX0_sayers_33 ⟨Nat.zero_le _, Nat.zero_le _⟩ (fun H locs hk1 hS => ?_)
        replace hP := keptP hP hk1
        refine lv_iload_n hx hb dX0_sayers_36 rfl (lv_at hl 4 rfl) ?_
        refine puI_S (own := RX0) (As := [.int (nI (dg (rp i2) a)), .int (bI b)]) (rest := []) ⟨hx, hb, hml, hown, hts⟩ (c_X0_isTold l D (dg (rp i2) a) b (dg_lt _ _)) gX0_sayers_X0_isTold rfl ⟨rfl, rfl⟩ 2 rfl (by decide +kernel) ⟨Nat.le_of_ble_eq_true rfl, Nat.le_of_ble_eq_true rfl⟩ nilP (hK.sub (tys' := []) [] rfl) hS hl.1 rfl (Nat.le_of_ble_eq_true rfl) dX0_sayers_37 ⟨Nat.zero_le _, Nat.zero_le _⟩ (fun H locs hk1 hS => ?_)
        replace hP := keptP hP hk1
        refine lv_if_eq (tgt := 50) hx hb dX0_sayers_40 (by decide) (fun c_5 => ?_) (fun c_5 => ?_)
        · have e_40 := bI_0 c_5
          refine lv_iinc (v := nI (i2 + 1)) (lv' := [(4, .int (nI (i2 + 1))), (3, .int (nI (syS tr on lt (fun s => dg (rp s) a) b i2))), (0, .ref (ad 0)), (1, .int (nI a)), (2, .int (bI b))]) hx hb dX0_sayers_50 hl (k := 0) rfl (iinc1 _) (by decide) rfl (fun ls hl => ?_)
          refine lv_goto (tgt := 9) hx hb dX0_sayers_53 (by decide) ?_
          exact ih_i2 (i2 + 1) (by omega) H locs ls hP hS (by have h9 := lv_sub hl [0, 1, 2, 3, 4] rfl; rw [show syS tr on lt (fun s => dg (rp s) a) b (i2 + 1) = syS tr on lt (fun s => dg (rp s) a) b i2 from if_neg (fun q => by have q2 := (Bool.and_eq_true_iff.mp q).2; exact Bool.noConfusion (e_40.symm.trans q2))]; exact h9)
        · have e_40 := bI_1 c_5
          refine lv_iload_n hx hb dX0_sayers_43 rfl (lv_at hl 1 rfl) ?_
          refine lv_iconst (v := nI 1) hx hb dX0_sayers_44 (by decide) ?_
          refine lv_iload hx hb dX0_sayers_45 (lv_at hl 0 rfl) ?_
          refine lv_ishl hx hb dX0_sayers_47 ?_
          refine tc_int (y := nI (2 ^ i2)) (shl1 (by omega)) ?_
          refine lv_ior hx hb dX0_sayers_48 ?_
          refine tc_int (y := nI (syS tr on lt (fun s => dg (rp s) a) b i2 ||| 2 ^ i2)) (fa_or _ _) ?_
          refine lv_istore_n (lv' := [(3, .int (nI (syS tr on lt (fun s => dg (rp s) a) b i2 ||| 2 ^ i2))), (4, .int (nI i2)), (0, .ref (ad 0)), (1, .int (nI a)), (2, .int (bI b))]) hx hb dX0_sayers_49 rfl hl (by decide) rfl (fun ls hl => ?_)
          refine lv_iinc (v := nI (i2 + 1)) (lv' := [(4, .int (nI (i2 + 1))), (3, .int (nI (syS tr on lt (fun s => dg (rp s) a) b i2 ||| 2 ^ i2))), (0, .ref (ad 0)), (1, .int (nI a)), (2, .int (bI b))]) hx hb dX0_sayers_50 hl (k := 1) rfl (iinc1 _) (by decide) rfl (fun ls hl => ?_)
          refine lv_goto (tgt := 9) hx hb dX0_sayers_53 (by decide) ?_
          exact ih_i2 (i2 + 1) (by omega) H locs ls hP hS (by have h9 := lv_sub hl [0, 1, 2, 3, 4] rfl; rw [show syS tr on lt (fun s => dg (rp s) a) b (i2 + 1) = syS tr on lt (fun s => dg (rp s) a) b i2 ||| 2 ^ i2 from if_pos (by rw [e_22, e_40]; rfl)]; exact h9)
  exact key1 (6) 0 (by omega) _ _ ls hP hS (lv_sub hl [0, 1, 2, 3, 4] rfl)

theorem and_lt64 {x y : Nat} (h : x < 64) : x &&& y < 64 := Nat.lt_of_le_of_lt Nat.and_le_left h
def rm_X0_matters : Room := { frames := 4, cells := 0, slots := 0, locals := 95 }
set_option maxHeartbeats 4000000 in
set_option maxRecDepth 100000 in
theorem c_X0_matters (hO : OKC n tr rp lt lg ru) (a b : Nat) (ha : a < 6) (hb6 : b < 6) : PuI l yX0_matters wsX0_matters rm_X0_matters D vwCl (wC ad cI cZ cJ n kd sd ts fs tr on rp lt ru lg lp) (tyC cI cZ cJ) [.ref (ad 0), .int (nI a), .int (nI b)] (bI (decide (dg (itS (lkN ts fs) ru (gsS rp (hsS tr on lt 6) 6) 12) b ≠ dg (itS (lkN ts fs) ru (gsS rp (hsS tr on lt 6 &&& (63 ^^^ 2 ^ a)) 6) 12) b))) := by
  refine PuI.of (cc := cX0_matters) (maxL := 5) (by decide) rfl (Nat.le_of_ble_eq_true rfl) (bI_n _) ?_
  intro p e s m args below meth c Q ls hx hb hml hown hts hP hK kret hl
  have hown : s.vm.findClass RX0 = some m.cls := hown
  have hl : lv_has ls 5 [(0, .ref (ad 0)), (1, .int (nI a)), (2, .int (nI b))] := hl
  have hS : va_S (fun _ => False) s.heap s.heap [] := va_S.rf
  have hh0 : hsS tr on lt 6 < 64 := hsS_lt tr on lt 6 (Nat.le_refl 6)
  have hg0 : gsS rp (hsS tr on lt 6) 6 < 4096 := gsS_lt hO.2.2.1 _ 6 (Nat.le_refl 6)
  have hit : ∀ r, itS (lkN ts fs) ru (gsS rp (hsS tr on lt 6) 6) r < 4096 := itS_lt (lkN_lt ts fs) ru hg0
  have hg1 : gsS rp (hsS tr on lt 6 &&& (63 ^^^ 2 ^ a)) 6 < 4096 := gsS_lt hO.2.2.1 _ 6 (Nat.le_refl 6)
  have hit1 : ∀ r, itS (lkN ts fs) ru (gsS rp (hsS tr on lt 6 &&& (63 ^^^ 2 ^ a)) 6) r < 4096 := itS_lt (lkN_lt ts fs) ru hg1
  refine lv_iload_n hx hb dX0_matters_0 rfl (lv_at hl 1 rfl) ?_
  refine puV_S (own := RX0) (As := [.int (nI a)]) (rest := []) ⟨hx, hb, hml, hown, hts⟩ (c_X0_requireSource l D a (by omega)) gX0_matters_X0_requireSource rfl ⟨rfl, rfl⟩ 1 rfl (by decide +kernel) ⟨Nat.le_of_ble_eq_true rfl, Nat.le_of_ble_eq_true rfl⟩ nilP (hK.sub (tys' := []) [] rfl) hS hl.1 rfl (Nat.le_of_ble_eq_true rfl) dX0_matters_1 ⟨Nat.zero_le _, Nat.zero_le _⟩ (fun H locs hk1 hS => ?_)
  replace hP := keptP hP hk1
  refine lv_iload_n hx hb dX0_matters_4 rfl (lv_at hl 2 rfl) ?_
  refine puV_S (own := RX0) (As := [.int (nI b)]) (rest := []) ⟨hx, hb, hml, hown, hts⟩ (c_X0_requireAtom l D b (by omega)) gX0_matters_X0_requireAtom rfl ⟨rfl, rfl⟩ 1 rfl (by decide +kernel) ⟨Nat.le_of_ble_eq_true rfl, Nat.le_of_ble_eq_true rfl⟩ nilP (hK.sub (tys' := []) [] rfl) hS hl.1 rfl (Nat.le_of_ble_eq_true rfl) dX0_matters_5 ⟨Nat.zero_le _, Nat.zero_le _⟩ (fun H locs hk1 hS => ?_)
  replace hP := keptP hP hk1
  refine lv_aload_n hx hb dX0_matters_8 rfl (lv_at hl 0 rfl) ?_
  refine puI_V (own := RX0) (As := []) (rest := []) (C := RX0) (ci := 0) (q0 := 0) ⟨hx, hb, hml, hown, hts⟩ (c_X0_heard l D ad cI cZ cJ n kd sd ts fs tr on rp lt ru lg lp hO) gX0_matters_X0_heard rfl ⟨rfl, rfl⟩ 0 rfl (by decide +kernel) ⟨Nat.le_of_ble_eq_true rfl, Nat.le_of_ble_eq_true rfl⟩ hP hK rfl rfl rfl hS hl.1 rfl (Nat.le_of_ble_eq_true rfl) dX0_matters_9 ⟨Nat.zero_le _, Nat.zero_le _⟩ (fun H locs hk1 hS => ?_)
  replace hP := keptP hP hk1
  refine lv_istore_n (lv' := [(3, .int (nI (hsS tr on lt 6))), (0, .ref (ad 0)), (1, .int (nI a)), (2, .int (nI b))]) hx hb dX0_matters_12 rfl hl (by decide) rfl (fun ls hl => ?_)
  refine lv_iload_n hx hb dX0_matters_13 rfl (lv_at hl 0 rfl) ?_
  refine lv_iconst (v := nI 1) hx hb dX0_matters_14 (by decide) ?_
  refine lv_iload_n hx hb dX0_matters_15 rfl (lv_at hl 2 rfl) ?_
  refine lv_ishl hx hb dX0_matters_16 ?_
  refine tc_int (y := nI (2 ^ a)) (shl1 (by omega)) ?_
  refine lv_iconst (v := (-1)) hx hb dX0_matters_17 (by decide) ?_
  refine lv_ixor hx hb dX0_matters_18 ?_
  refine lv_iand hx hb dX0_matters_19 ?_
  refine tc_int (y := nI (hsS tr on lt 6 &&& (63 ^^^ 2 ^ a))) (andnot (k := 6) hh0) ?_
  refine lv_istore (lv' := [(4, .int (nI (hsS tr on lt 6 &&& (63 ^^^ 2 ^ a)))), (3, .int (nI (hsS tr on lt 6))), (0, .ref (ad 0)), (1, .int (nI a)), (2, .int (nI b))]) hx hb dX0_matters_20 hl (by decide) rfl (fun ls hl => ?_)
  refine lv_aload_n hx hb dX0_matters_22 rfl (lv_at hl 2 rfl) ?_
  refine lv_iload_n hx hb dX0_matters_23 rfl (lv_at hl 1 rfl) ?_
  refine puI_V (own := RX0) (As := [.int (nI (hsS tr on lt 6))]) (rest := []) (C := RX0) (ci := 0) (q0 := 0) ⟨hx, hb, hml, hown, hts⟩ (c_X0_settledState l D ad cI cZ cJ n kd sd ts fs tr on rp lt ru lg lp hO (hsS tr on lt 6) hh0) gX0_matters_X0_settledState rfl ⟨rfl, rfl⟩ 1 rfl (by decide +kernel) ⟨Nat.le_of_ble_eq_true rfl, Nat.le_of_ble_eq_true rfl⟩ hP hK rfl rfl rfl hS hl.1 rfl (Nat.le_of_ble_eq_true rfl) dX0_matters_24 ⟨Nat.zero_le _, Nat.zero_le _⟩ (fun H locs hk1 hS => ?_)
  replace hP := keptP hP hk1
  refine lv_iload_n hx hb dX0_matters_27 rfl (lv_at hl 4 rfl) ?_
  refine puI_S (own := RX0) (As := [.int (nI (itS (lkN ts fs) ru (gsS rp (hsS tr on lt 6) 6) 12)), .int (nI b)]) (rest := []) ⟨hx, hb, hml, hown, hts⟩ (c_X0_valueIn l D (itS (lkN ts fs) ru (gsS rp (hsS tr on lt 6) 6) 12) b (hit _) (by omega)) gX0_matters_X0_valueIn rfl ⟨rfl, rfl⟩ 2 rfl (by decide +kernel) ⟨Nat.le_of_ble_eq_true rfl, Nat.le_of_ble_eq_true rfl⟩ nilP (hK.sub (tys' := []) [] rfl) hS hl.1 rfl (Nat.le_of_ble_eq_true rfl) dX0_matters_28 ⟨Nat.zero_le _, Nat.zero_le _⟩ (fun H locs hk1 hS => ?_)
  replace hP := keptP hP hk1
  refine lv_aload_n hx hb dX0_matters_31 rfl (lv_at hl 2 rfl) ?_
  refine lv_iload hx hb dX0_matters_32 (lv_at hl 0 rfl) ?_
  refine puI_V (own := RX0) (As := [.int (nI (hsS tr on lt 6 &&& (63 ^^^ 2 ^ a)))]) (rest := [.int (nI (dg (itS (lkN ts fs) ru (gsS rp (hsS tr on lt 6) 6) 12) b))]) (C := RX0) (ci := 0) (q0 := 0) ⟨hx, hb, hml, hown, hts⟩ (c_X0_settledState l D ad cI cZ cJ n kd sd ts fs tr on rp lt ru lg lp hO (hsS tr on lt 6 &&& (63 ^^^ 2 ^ a)) (and_lt64 hh0)) gX0_matters_X0_settledState rfl ⟨rfl, rfl⟩ 1 rfl (by decide +kernel) ⟨Nat.le_of_ble_eq_true rfl, Nat.le_of_ble_eq_true rfl⟩ hP hK rfl rfl rfl hS hl.1 rfl (Nat.le_of_ble_eq_true rfl) dX0_matters_34 ⟨Nat.zero_le _, Nat.zero_le _⟩ (fun H locs hk1 hS => ?_)
  replace hP := keptP hP hk1
  refine lv_iload_n hx hb dX0_matters_37 rfl (lv_at hl 4 rfl) ?_
  refine puI_S (own := RX0) (As := [.int (nI (itS (lkN ts fs) ru (gsS rp (hsS tr on lt 6 &&& (63 ^^^ 2 ^ a)) 6) 12)), .int (nI b)]) (rest := [.int (nI (dg (itS (lkN ts fs) ru (gsS rp (hsS tr on lt 6) 6) 12) b))]) ⟨hx, hb, hml, hown, hts⟩ (c_X0_valueIn l D (itS (lkN ts fs) ru (gsS rp (hsS tr on lt 6 &&& (63 ^^^ 2 ^ a)) 6) 12) b (hit1 _) (by omega)) gX0_matters_X0_valueIn rfl ⟨rfl, rfl⟩ 2 rfl (by decide +kernel) ⟨Nat.le_of_ble_eq_true rfl, Nat.le_of_ble_eq_true rfl⟩ nilP (hK.sub (tys' := []) [] rfl) hS hl.1 rfl (Nat.le_of_ble_eq_true rfl) dX0_matters_38 ⟨Nat.zero_le _, Nat.zero_le _⟩ (fun H locs hk1 hS => ?_)
  replace hP := keptP hP hk1
  refine lv_icmp_eq (tgt := 48) hx hb dX0_matters_41 (by decide) (fun c_1 => ?_) (fun c_1 => ?_)
  · have e_41 : decide (dg (itS (lkN ts fs) ru (gsS rp (hsS tr on lt 6) 6) 12) b ≠ dg (itS (lkN ts fs) ru (gsS rp (hsS tr on lt 6 &&& (63 ^^^ 2 ^ a)) 6) 12) b) = false := decide_eq_false (fun q => q ((nI_eq (Nat.lt_trans (dg_lt _ _) (by decide)) (Nat.lt_trans (dg_lt _ _) (by decide))).mp c_1))
    refine lv_iconst (v := nI 0) hx hb dX0_matters_48 (by decide) ?_
    exact kret _ _ _ _ _ (by rw [e_41]; rfl) hS dX0_matters_49
  · have e_41 : decide (dg (itS (lkN ts fs) ru (gsS rp (hsS tr on lt 6) 6) 12) b ≠ dg (itS (lkN ts fs) ru (gsS rp (hsS tr on lt 6 &&& (63 ^^^ 2 ^ a)) 6) 12) b) = true := decide_eq_true (fun q => c_1 (by rw [q]))
    refine lv_iconst (v := nI 1) hx hb dX0_matters_44 (by decide) ?_
    refine lv_goto (tgt := 49) hx hb dX0_matters_45 (by decide) ?_
    exact kret _ _ _ _ _ (by rw [e_41]; rfl) hS dX0_matters_49

theorem nz {x : Nat} (h : x < 2 ^ 31) : nI x = 0 ↔ x = 0 := by rw [← nI_0]; exact nI_eq h (by decide)
theorem awS_lt (st v : Nat) : ∀ k, awS st v k < 2 ^ k
  | 0 => by simp [awS]
  | k + 1 => by
    have ih := awS_lt st v k
    unfold awS
    split
    · exact Nat.or_lt_two_pow (Nat.lt_trans ih (Nat.pow_lt_pow_right (by decide) (Nat.lt_succ_self k))) (Nat.pow_lt_pow_right (by decide) (Nat.lt_succ_self k))
    · exact Nat.lt_trans ih (Nat.pow_lt_pow_right (by decide) (Nat.lt_succ_self k))
theorem awS_lt6 (st v : Nat) : awS st v 6 < 64 := awS_lt st v 6
def rm_X0_silence : Room := { frames := 4, cells := 0, slots := 0, locals := 95 }
set_option maxHeartbeats 4000000 in
set_option maxRecDepth 100000 in
theorem c_X0_silence (hO : OKC n tr rp lt lg ru) : PuI l yX0_silence wsX0_silence rm_X0_silence D vwCl (wC ad cI cZ cJ n kd sd ts fs tr on rp lt ru lg lp) (tyC cI cZ cJ) [.ref (ad 0)] (rI (slF (hsS tr on lt 6) tr (fun h => awS (itS (lkN ts fs) ru (gsS rp h 6) 12) 3 6) 64).1) := by
  refine PuI.of (cc := cX0_silence) (maxL := 6) (by decide) rfl (Nat.le_of_ble_eq_true rfl) (vp_nar_int _) ?_
  intro p e s m args below meth c Q ls hx hb hml hown hts hP hK kret hl
  have hown : s.vm.findClass RX0 = some m.cls := hown
  have hl : lv_has ls 6 [(0, .ref (ad 0))] := hl
  have hS : va_S (fun _ => False) s.heap s.heap [] := va_S.rf
  have hh0 : hsS tr on lt 6 < 64 := hsS_lt tr on lt 6 (Nat.le_refl 6)
  have hg0 : gsS rp (hsS tr on lt 6) 6 < 4096 := gsS_lt hO.2.2.1 _ 6 (Nat.le_refl 6)
  have hit : ∀ r, itS (lkN ts fs) ru (gsS rp (hsS tr on lt 6) 6) r < 4096 := itS_lt (lkN_lt ts fs) ru hg0
  have hsl : ∀ k, (slF (hsS tr on lt 6) tr (fun h => awS (itS (lkN ts fs) ru (gsS rp h 6) 12) 3 6) k).2 < 2 ^ 31 := fun k => Nat.lt_of_le_of_lt (slF_lt hO.2.1 _ k) (by decide)
  have hts9 : ∀ k, trS tr k 6 < 2 ^ 31 := fun k => Nat.lt_of_le_of_lt (trS_le hO.2.1 k 6 (Nat.le_refl 6)) (by decide)
  refine lv_aload_n hx hb dX0_silence_0 rfl (lv_at hl 0 rfl) ?_
  refine puI_V (own := RX0) (As := []) (rest := []) (C := RX0) (ci := 0) (q0 := 0) ⟨hx, hb, hml, hown, hts⟩ (c_X0_heard l D ad cI cZ cJ n kd sd ts fs tr on rp lt ru lg lp hO) gX0_silence_X0_heard rfl ⟨rfl, rfl⟩ 0 rfl (by decide +kernel) ⟨Nat.le_of_ble_eq_true rfl, Nat.le_of_ble_eq_true rfl⟩ hP hK rfl rfl rfl hS hl.1 rfl (Nat.le_of_ble_eq_true rfl) dX0_silence_1 ⟨Nat.zero_le _, Nat.zero_le _⟩ (fun H locs hk1 hS => ?_)
  replace hP := keptP hP hk1
  refine lv_istore_n (lv' := [(1, .int (nI (hsS tr on lt 6))), (0, .ref (ad 0))]) hx hb dX0_silence_4 rfl hl (by decide) rfl (fun ls hl => ?_)
  refine lv_iconst (v := (-1)) hx hb dX0_silence_5 (by decide) ?_
  refine tc_int (y := rI none) (rfl) ?_
  refine lv_istore_n (lv' := [(2, .int (rI none)), (1, .int (nI (hsS tr on lt 6))), (0, .ref (ad 0))]) hx hb dX0_silence_6 rfl hl (by decide) rfl (fun ls hl => ?_)
  refine lv_sipush (v := nI 601) hx hb dX0_silence_7 (by decide) ?_
  refine lv_istore_n (lv' := [(3, .int (nI 601)), (2, .int (rI none)), (1, .int (nI (hsS tr on lt 6))), (0, .ref (ad 0))]) hx hb dX0_silence_10 rfl hl (by decide) rfl (fun ls hl => ?_)
  refine lv_iconst (v := nI 0) hx hb dX0_silence_11 (by decide) ?_
  refine lv_istore (lv' := [(4, .int (nI 0)), (3, .int (nI 601)), (2, .int (rI none)), (1, .int (nI (hsS tr on lt 6))), (0, .ref (ad 0))]) hx hb dX0_silence_12 hl (by decide) rfl (fun ls hl => ?_)
  have key1 : ∀ (d3 i2 : Nat), i2 + d3 = 64 → ∀ (H : Heap) (locs : List Loc) (ls : Array Slot), va_P D vwCl (wC ad cI cZ cJ n kd sd ts fs tr on rp lt ru lg lp) H → va_S (fun _ => False) s.heap H locs → lv_has ls 6 [(4, .int (nI i2)), (2, .int (rI (slF (hsS tr on lt 6) tr (fun h => awS (itS (lkN ts fs) ru (gsS rp h 6) 12) 3 6) i2).1)), (3, .int (nI (slF (hsS tr on lt 6) tr (fun h => awS (itS (lkN ts fs) ru (gsS rp h 6) 12) 3 6) i2).2)), (1, .int (nI (hsS tr on lt 6))), (0, .ref (ad 0))] → W p l e rm_X0_silence s m args below meth c H locs 0 0 Q (F0 m 14 ls []) := by
    intro d3
    induction d3 with
    | zero =>
      intro i2 hi_i2 H locs ls hP hS hl
      obtain rfl : i2 = 64 := by omega
      refine lv_iload hx hb dX0_silence_14 (lv_at hl 0 rfl) ?_
      refine lv_bipush (v := nI 64) hx hb dX0_silence_16 (by decide) ?_
      refine cT_ge (tgt := 73) hx hb dX0_silence_18 (by decide) (nI_le (by omega) (by omega)) ?_
      refine lv_iload_n hx hb dX0_silence_73 rfl (lv_at hl 1 rfl) ?_
      exact kret _ _ _ _ _ (rfl) hS dX0_silence_74
    | succ d3 ih_i2 =>
      intro i2 hi_i2 H locs ls hP hS hl
      refine lv_iload hx hb dX0_silence_14 (lv_at hl 0 rfl) ?_
      refine lv_bipush (v := nI 64) hx hb dX0_silence_16 (by decide) ?_
      refine cF_ge (tgt := 73) hx hb dX0_silence_18 (by decide) (nI_ge (by omega) (by omega)) ?_
      refine lv_iload hx hb dX0_silence_21 (lv_at hl 0 rfl) ?_
      refine lv_iload_n hx hb dX0_silence_23 rfl (lv_at hl 3 rfl) ?_
      refine lv_iconst (v := (-1)) hx hb dX0_silence_24 (by decide) ?_
      refine lv_ixor hx hb dX0_silence_25 ?_
      refine lv_iand hx hb dX0_silence_26 ?_
      refine tc_int (y := nI (i2 &&& (63 ^^^ hsS tr on lt 6))) (andnot (k := 6) (by omega)) ?_
      refine lv_if_ne (tgt := 67) hx hb dX0_silence_27 (by decide) (fun c_4 => ?_) (fun c_4 => ?_)
      · have e_27 : ¬ i2 &&& (63 ^^^ hsS tr on lt 6) = 0 := fun q => c_4 (by rw [q]; rfl)
        refine lv_iinc (v := nI (i2 + 1)) (lv' := [(4, .int (nI (i2 + 1))), (2, .int (rI (slF (hsS tr on lt 6) tr (fun h => awS (itS (lkN ts fs) ru (gsS rp h 6) 12) 3 6) i2).1)), (3, .int (nI (slF (hsS tr on lt 6) tr (fun h => awS (itS (lkN ts fs) ru (gsS rp h 6) 12) 3 6) i2).2)), (1, .int (nI (hsS tr on lt 6))), (0, .ref (ad 0))]) hx hb dX0_silence_67 hl (k := 0) rfl (iinc1 _) (by decide) rfl (fun ls hl => ?_)
        refine lv_goto (tgt := 14) hx hb dX0_silence_70 (by decide) ?_
        exact ih_i2 (i2 + 1) (by omega) H locs ls hP hS (by have h9 := lv_sub hl [0, 1, 2, 3, 4] rfl; rw [show slF (hsS tr on lt 6) tr (fun h => awS (itS (lkN ts fs) ru (gsS rp h 6) 12) 3 6) (i2 + 1) = slF (hsS tr on lt 6) tr (fun h => awS (itS (lkN ts fs) ru (gsS rp h 6) 12) 3 6) i2 from if_neg (fun q => e_27 q.1)]; exact h9)
      · have e_27 : i2 &&& (63 ^^^ hsS tr on lt 6) = 0 := (nz (Nat.lt_of_le_of_lt Nat.and_le_left (by omega))).mp c_4
        refine lv_aload_n hx hb dX0_silence_30 rfl (lv_at hl 4 rfl) ?_
        refine lv_iload hx hb dX0_silence_31 (lv_at hl 0 rfl) ?_
        refine puI_V (own := RX0) (As := [.int (nI i2)]) (rest := []) (C := RX0) (ci := 0) (q0 := 0) ⟨hx, hb, hml, hown, hts⟩ (c_X0_trustOf l D ad cI cZ cJ n kd sd ts fs tr on rp lt ru lg lp hO i2 (by omega)) gX0_silence_X0_trustOf rfl ⟨rfl, rfl⟩ 1 rfl (by decide +kernel) ⟨Nat.le_of_ble_eq_true rfl, Nat.le_of_ble_eq_true rfl⟩ hP hK rfl rfl rfl hS hl.1 rfl (Nat.le_of_ble_eq_true rfl) dX0_silence_33 ⟨Nat.zero_le _, Nat.zero_le _⟩ (fun H locs hk1 hS => ?_)
        replace hP := keptP hP hk1
        refine lv_istore (lv' := [(5, .int (nI (trS tr i2 6))), (4, .int (nI i2)), (2, .int (rI (slF (hsS tr on lt 6) tr (fun h => awS (itS (lkN ts fs) ru (gsS rp h 6) 12) 3 6) i2).1)), (3, .int (nI (slF (hsS tr on lt 6) tr (fun h => awS (itS (lkN ts fs) ru (gsS rp h 6) 12) 3 6) i2).2)), (1, .int (nI (hsS tr on lt 6))), (0, .ref (ad 0))]) hx hb dX0_silence_36 hl (by decide) rfl (fun ls hl => ?_)
        refine lv_iload hx hb dX0_silence_38 (lv_at hl 0 rfl) ?_
        refine lv_iload_n hx hb dX0_silence_40 rfl (lv_at hl 3 rfl) ?_
        refine lv_icmp_ge (tgt := 67) hx hb dX0_silence_41 (by decide) (fun c_5 => ?_) (fun c_5 => ?_)
        · have e_41 : ¬ trS tr i2 6 < (slF (hsS tr on lt 6) tr (fun h => awS (itS (lkN ts fs) ru (gsS rp h 6) 12) 3 6) i2).2 := fun q => nI_ge q (hsl _) c_5
          refine lv_iinc (v := nI (i2 + 1)) (lv' := [(4, .int (nI (i2 + 1))), (5, .int (nI (trS tr i2 6))), (2, .int (rI (slF (hsS tr on lt 6) tr (fun h => awS (itS (lkN ts fs) ru (gsS rp h 6) 12) 3 6) i2).1)), (3, .int (nI (slF (hsS tr on lt 6) tr (fun h => awS (itS (lkN ts fs) ru (gsS rp h 6) 12) 3 6) i2).2)), (1, .int (nI (hsS tr on lt 6))), (0, .ref (ad 0))]) hx hb dX0_silence_67 hl (k := 1) rfl (iinc1 _) (by decide) rfl (fun ls hl => ?_)
          refine lv_goto (tgt := 14) hx hb dX0_silence_70 (by decide) ?_
          exact ih_i2 (i2 + 1) (by omega) H locs ls hP hS (by have h9 := lv_sub hl [0, 2, 3, 4, 5] rfl; rw [show slF (hsS tr on lt 6) tr (fun h => awS (itS (lkN ts fs) ru (gsS rp h 6) 12) 3 6) (i2 + 1) = slF (hsS tr on lt 6) tr (fun h => awS (itS (lkN ts fs) ru (gsS rp h 6) 12) 3 6) i2 from if_neg (fun q => e_41 q.2.1)]; exact h9)
        · have e_41 : trS tr i2 6 < (slF (hsS tr on lt 6) tr (fun h => awS (itS (lkN ts fs) ru (gsS rp h 6) 12) 3 6) i2).2 := Nat.not_le.mp (fun q => c_5 (nI_le q (hts9 _)))
          refine lv_aload_n hx hb dX0_silence_44 rfl (lv_at hl 5 rfl) ?_
          refine lv_iload_n hx hb dX0_silence_45 rfl (lv_at hl 4 rfl) ?_
          refine lv_iload hx hb dX0_silence_46 (lv_at hl 1 rfl) ?_
          refine lv_iconst (v := (-1)) hx hb dX0_silence_48 (by decide) ?_
          refine lv_ixor hx hb dX0_silence_49 ?_
          refine lv_iand hx hb dX0_silence_50 ?_
          refine tc_int (y := nI (hsS tr on lt 6 &&& (63 ^^^ i2))) (andnot (k := 6) hh0) ?_
          refine puI_V (own := RX0) (As := [.int (nI (hsS tr on lt 6 &&& (63 ^^^ i2)))]) (rest := []) (C := RX0) (ci := 0) (q0 := 0) ⟨hx, hb, hml, hown, hts⟩ (c_X0_settledState l D ad cI cZ cJ n kd sd ts fs tr on rp lt ru lg lp hO (hsS tr on lt 6 &&& (63 ^^^ i2)) (and_lt64 hh0)) gX0_silence_X0_settledState rfl ⟨rfl, rfl⟩ 1 rfl (by decide +kernel) ⟨Nat.le_of_ble_eq_true rfl, Nat.le_of_ble_eq_true rfl⟩ hP hK rfl rfl rfl hS hl.1 rfl (Nat.le_of_ble_eq_true rfl) dX0_silence_51 ⟨Nat.zero_le _, Nat.zero_le _⟩ (fun H locs hk1 hS => ?_)
          replace hP := keptP hP hk1
          refine lv_iconst (v := nI 3) hx hb dX0_silence_54 (by decide) ?_
          refine puI_S (own := RX0) (As := [.int (nI (itS (lkN ts fs) ru (gsS rp (hsS tr on lt 6 &&& (63 ^^^ i2)) 6) 12)), .int (nI 3)]) (rest := []) ⟨hx, hb, hml, hown, hts⟩ (c_X0_atomsWith l D (itS (lkN ts fs) ru (gsS rp (hsS tr on lt 6 &&& (63 ^^^ i2)) 6) 12) 3 (itS_lt (lkN_lt ts fs) ru (gsS_lt hO.2.2.1 _ 6 (Nat.le_refl 6)) 12) (by omega)) gX0_silence_X0_atomsWith rfl ⟨rfl, rfl⟩ 2 rfl (by decide +kernel) ⟨Nat.le_of_ble_eq_true rfl, Nat.le_of_ble_eq_true rfl⟩ nilP (hK.sub (tys' := []) [] rfl) hS hl.1 rfl (Nat.le_of_ble_eq_true rfl) dX0_silence_55 ⟨Nat.zero_le _, Nat.zero_le _⟩ (fun H locs hk1 hS => ?_)
          replace hP := keptP hP hk1
          refine lv_if_ne (tgt := 67) hx hb dX0_silence_58 (by decide) (fun c_6 => ?_) (fun c_6 => ?_)
          · have e_58 : ¬ (fun h => awS (itS (lkN ts fs) ru (gsS rp h 6) 12) 3 6) (hsS tr on lt 6 &&& (63 ^^^ i2)) = 0 := fun q => c_6 (by show nI ((fun h => awS (itS (lkN ts fs) ru (gsS rp h 6) 12) 3 6) (hsS tr on lt 6 &&& (63 ^^^ i2))) = 0; rw [q]; rfl)
            refine lv_iinc (v := nI (i2 + 1)) (lv' := [(4, .int (nI (i2 + 1))), (5, .int (nI (trS tr i2 6))), (2, .int (rI (slF (hsS tr on lt 6) tr (fun h => awS (itS (lkN ts fs) ru (gsS rp h 6) 12) 3 6) i2).1)), (3, .int (nI (slF (hsS tr on lt 6) tr (fun h => awS (itS (lkN ts fs) ru (gsS rp h 6) 12) 3 6) i2).2)), (1, .int (nI (hsS tr on lt 6))), (0, .ref (ad 0))]) hx hb dX0_silence_67 hl (k := 1) rfl (iinc1 _) (by decide) rfl (fun ls hl => ?_)
            refine lv_goto (tgt := 14) hx hb dX0_silence_70 (by decide) ?_
            exact ih_i2 (i2 + 1) (by omega) H locs ls hP hS (by have h9 := lv_sub hl [0, 2, 3, 4, 5] rfl; rw [show slF (hsS tr on lt 6) tr (fun h => awS (itS (lkN ts fs) ru (gsS rp h 6) 12) 3 6) (i2 + 1) = slF (hsS tr on lt 6) tr (fun h => awS (itS (lkN ts fs) ru (gsS rp h 6) 12) 3 6) i2 from if_neg (fun q => e_58 q.2.2)]; exact h9)
          · have e_58 : (fun h => awS (itS (lkN ts fs) ru (gsS rp h 6) 12) 3 6) (hsS tr on lt 6 &&& (63 ^^^ i2)) = 0 := (nz (Nat.lt_trans (awS_lt6 _ _) (by decide))).mp c_6
            refine lv_iload hx hb dX0_silence_61 (lv_at hl 1 rfl) ?_
            refine tc_int (y := rI (some i2)) (rfl) ?_
            refine lv_istore_n (lv' := [(2, .int (rI (some i2))), (5, .int (nI (trS tr i2 6))), (4, .int (nI i2)), (3, .int (nI (slF (hsS tr on lt 6) tr (fun h => awS (itS (lkN ts fs) ru (gsS rp h 6) 12) 3 6) i2).2)), (1, .int (nI (hsS tr on lt 6))), (0, .ref (ad 0))]) hx hb dX0_silence_63 rfl hl (by decide) rfl (fun ls hl => ?_)
            refine lv_iload hx hb dX0_silence_64 (lv_at hl 1 rfl) ?_
            refine lv_istore_n (lv' := [(3, .int (nI (trS tr i2 6))), (2, .int (rI (some i2))), (5, .int (nI (trS tr i2 6))), (4, .int (nI i2)), (1, .int (nI (hsS tr on lt 6))), (0, .ref (ad 0))]) hx hb dX0_silence_66 rfl hl (by decide) rfl (fun ls hl => ?_)
            refine lv_iinc (v := nI (i2 + 1)) (lv' := [(4, .int (nI (i2 + 1))), (3, .int (nI (trS tr i2 6))), (2, .int (rI (some i2))), (5, .int (nI (trS tr i2 6))), (1, .int (nI (hsS tr on lt 6))), (0, .ref (ad 0))]) hx hb dX0_silence_67 hl (k := 3) rfl (iinc1 _) (by decide) rfl (fun ls hl => ?_)
            refine lv_goto (tgt := 14) hx hb dX0_silence_70 (by decide) ?_
            exact ih_i2 (i2 + 1) (by omega) H locs ls hP hS (by have h9 := lv_sub hl [0, 2, 1, 4, 5] rfl; rw [show slF (hsS tr on lt 6) tr (fun h => awS (itS (lkN ts fs) ru (gsS rp h 6) 12) 3 6) (i2 + 1) = (some i2, trS tr i2 6) from if_pos ⟨e_27, e_41, e_58⟩]; exact h9)
  exact key1 (64) 0 (by omega) _ _ ls hP hS (lv_sub hl [0, 2, 1, 3, 4] rfl)

theorem hin_X0_contradicted : ∀ w ∈ wsX00, w ∈ wsX0_contradicted := by first | exact fun _ h => List.mem_cons_of_mem _ (List.mem_append_right _ h) | exact fun _ h => List.mem_cons_of_mem _ (List.mem_append_left _ (List.mem_append_right _ h)) | exact fun _ h => List.mem_cons_of_mem _ (List.mem_append_left _ (List.mem_append_left _ (List.mem_append_right _ h))) | exact fun _ h => List.mem_cons_of_mem _ (List.mem_append_left _ (List.mem_append_left _ (List.mem_append_left _ (List.mem_append_right _ h)))) | decide +kernel
def rm_X0_contradicted : Room := { frames := 5, cells := 0, slots := 0, locals := 115 }
set_option maxHeartbeats 4000000 in
set_option maxRecDepth 100000 in
theorem c_X0_contradicted (hO : OKC n tr rp lt lg ru) (a : Nat) (ha : a < 6) : PuI l yX0_contradicted wsX0_contradicted rm_X0_contradicted D vwCl (wC ad cI cZ cJ n kd sd ts fs tr on rp lt ru lg lp) (tyC cI cZ cJ) [.ref (ad 0), .int (nI a)] (nI (ctS (fun b => dg (rp a) b) (fun b => dg (itS (lkN ts fs) ru (gsS rp (hsS tr on lt 6) 6) 12) b) 6)) := by
  refine PuI.of (cc := cX0_contradicted) (maxL := 5) (by decide) rfl (Nat.le_of_ble_eq_true rfl) (vp_nar_int _) ?_
  intro p e s m args below meth c Q ls hx hb hml hown hts hP hK kret hl
  have hown : s.vm.findClass RX0 = some m.cls := hown
  have hl : lv_has ls 5 [(0, .ref (ad 0)), (1, .int (nI a))] := hl
  have hS : va_S (fun _ => False) s.heap s.heap [] := va_S.rf
  have hin0 : ∀ w ∈ u_ws RX0 TX0 12, w ∈ wsX0_contradicted := hin_X0_contradicted
  have hh0 : hsS tr on lt 6 < 64 := hsS_lt tr on lt 6 (Nat.le_refl 6)
  have hg0 : gsS rp (hsS tr on lt 6) 6 < 4096 := gsS_lt hO.2.2.1 _ 6 (Nat.le_refl 6)
  have hit : ∀ r, itS (lkN ts fs) ru (gsS rp (hsS tr on lt 6) 6) r < 4096 := itS_lt (lkN_lt ts fs) ru hg0
  refine lv_iload_n hx hb dX0_contradicted_0 rfl (lv_at hl 1 rfl) ?_
  refine puV_S (own := RX0) (As := [.int (nI a)]) (rest := []) ⟨hx, hb, hml, hown, hts⟩ (c_X0_requireSource l D a (by omega)) gX0_contradicted_X0_requireSource rfl ⟨rfl, rfl⟩ 1 rfl (by decide +kernel) ⟨Nat.le_of_ble_eq_true rfl, Nat.le_of_ble_eq_true rfl⟩ nilP (hK.sub (tys' := []) [] rfl) hS hl.1 rfl (Nat.le_of_ble_eq_true rfl) dX0_contradicted_1 ⟨Nat.zero_le _, Nat.zero_le _⟩ (fun H locs hk1 hS => ?_)
  replace hP := keptP hP hk1
  refine lv_aload_n hx hb dX0_contradicted_4 rfl (lv_at hl 0 rfl) ?_
  refine puI_V (own := RX0) (As := []) (rest := []) (C := RX0) (ci := 0) (q0 := 0) ⟨hx, hb, hml, hown, hts⟩ (c_X0_settledNow l D ad cI cZ cJ n kd sd ts fs tr on rp lt ru lg lp hO) gX0_contradicted_X0_settledNow rfl ⟨rfl, rfl⟩ 0 rfl (by decide +kernel) ⟨Nat.le_of_ble_eq_true rfl, Nat.le_of_ble_eq_true rfl⟩ hP hK rfl rfl rfl hS hl.1 rfl (Nat.le_of_ble_eq_true rfl) dX0_contradicted_5 ⟨Nat.zero_le _, Nat.zero_le _⟩ (fun H locs hk1 hS => ?_)
  replace hP := keptP hP hk1
  refine lv_istore_n (lv' := [(2, .int (nI (itS (lkN ts fs) ru (gsS rp (hsS tr on lt 6) 6) 12))), (0, .ref (ad 0)), (1, .int (nI a))]) hx hb dX0_contradicted_8 rfl hl (by decide) rfl (fun ls hl => ?_)
  refine lv_iconst (v := nI 0) hx hb dX0_contradicted_9 (by decide) ?_
  refine lv_istore_n (lv' := [(3, .int (nI 0)), (2, .int (nI (itS (lkN ts fs) ru (gsS rp (hsS tr on lt 6) 6) 12))), (0, .ref (ad 0)), (1, .int (nI a))]) hx hb dX0_contradicted_10 rfl hl (by decide) rfl (fun ls hl => ?_)
  refine lv_iconst (v := nI 0) hx hb dX0_contradicted_11 (by decide) ?_
  refine lv_istore (lv' := [(4, .int (nI 0)), (3, .int (nI 0)), (2, .int (nI (itS (lkN ts fs) ru (gsS rp (hsS tr on lt 6) 6) 12))), (0, .ref (ad 0)), (1, .int (nI a))]) hx hb dX0_contradicted_12 hl (by decide) rfl (fun ls hl => ?_)
  have key1 : ∀ (d3 i2 : Nat), i2 + d3 = 6 → ∀ (H : Heap) (locs : List Loc) (ls : Array Slot), va_P D vwCl (wC ad cI cZ cJ n kd sd ts fs tr on rp lt ru lg lp) H → va_S (fun _ => False) s.heap H locs → lv_has ls 5 [(4, .int (nI i2)), (3, .int (nI (ctS (fun b => dg (rp a) b) (fun b => dg (itS (lkN ts fs) ru (gsS rp (hsS tr on lt 6) 6) 12) b) i2))), (2, .int (nI (itS (lkN ts fs) ru (gsS rp (hsS tr on lt 6) 6) 12))), (0, .ref (ad 0)), (1, .int (nI a))] → W p l e rm_X0_contradicted s m args below meth c H locs 0 0 Q (F0 m 14 ls []) := by
    intro d3
    induction d3 with
    | zero =>
      intro i2 hi_i2 H locs ls hP hS hl
      obtain rfl : i2 = 6 := by omega
      refine lv_iload hx hb dX0_contradicted_14 (lv_at hl 0 rfl) ?_
      refine lv_bipush (v := nI 6) hx hb dX0_contradicted_16 (by decide) ?_
      refine cT_ge (tgt := 53) hx hb dX0_contradicted_18 (by decide) (nI_le (by omega) (by omega)) ?_
      refine lv_iload_n hx hb dX0_contradicted_53 rfl (lv_at hl 1 rfl) ?_
      exact kret _ _ _ _ _ (rfl) hS dX0_contradicted_54
    | succ d3 ih_i2 =>
      intro i2 hi_i2 H locs ls hP hS hl
      refine lv_iload hx hb dX0_contradicted_14 (lv_at hl 0 rfl) ?_
      refine lv_bipush (v := nI 6) hx hb dX0_contradicted_16 (by decide) ?_
      refine cF_ge (tgt := 53) hx hb dX0_contradicted_18 (by decide) (nI_ge (by omega) (by omega)) ?_
      refine lv_aload_n hx hb dX0_contradicted_21 rfl (lv_at hl 3 rfl) ?_
      refine va_get (D := D) (ci := 0) (v := .ref (ad 7)) (C := RX0) (T := TX0) (N := 12) hx hb hts hin0 hown hK hP 0 rfl rfl 7 (by decide) (hts (.fieldLink RX0 34 "RumourReasoner" "reports" "[I") (by decide +kernel)) (fun _ h9 => h9) rfl dX0_contradicted_22 ?_
      refine lv_iload_n hx hb dX0_contradicted_25 rfl (lv_at hl 4 rfl) ?_
      refine ld_ni hx hb hK hP 7 0 rfl rfl (j := a) (by omega) (by decide) dX0_contradicted_26 ?_
      refine lv_iload hx hb dX0_contradicted_27 (lv_at hl 0 rfl) ?_
      refine puI_S (own := RX0) (As := [.int (nI (rp a)), .int (nI i2)]) (rest := []) ⟨hx, hb, hml, hown, hts⟩ (c_X0_valueIn l D (rp a) i2 (hO.2.2.1 _ (by omega)) (by omega)) gX0_contradicted_X0_valueIn rfl ⟨rfl, rfl⟩ 2 rfl (by decide +kernel) ⟨Nat.le_of_ble_eq_true rfl, Nat.le_of_ble_eq_true rfl⟩ nilP (hK.sub (tys' := []) [] rfl) hS hl.1 rfl (Nat.le_of_ble_eq_true rfl) dX0_contradicted_29 ⟨Nat.zero_le _, Nat.zero_le _⟩ (fun H locs hk1 hS => ?_)
      replace hP := keptP hP hk1
      refine lv_iload_n hx hb dX0_contradicted_32 rfl (lv_at hl 2 rfl) ?_
      refine lv_iload hx hb dX0_contradicted_33 (lv_at hl 0 rfl) ?_
      refine puI_S (own := RX0) (As := [.int (nI (itS (lkN ts fs) ru (gsS rp (hsS tr on lt 6) 6) 12)), .int (nI i2)]) (rest := [.int (nI (dg (rp a) i2))]) ⟨hx, hb, hml, hown, hts⟩ (c_X0_valueIn l D (itS (lkN ts fs) ru (gsS rp (hsS tr on lt 6) 6) 12) i2 (hit _) (by omega)) gX0_contradicted_X0_valueIn rfl ⟨rfl, rfl⟩ 2 rfl (by decide +kernel) ⟨Nat.le_of_ble_eq_true rfl, Nat.le_of_ble_eq_true rfl⟩ nilP (hK.sub (tys' := []) [] rfl) hS hl.1 rfl (Nat.le_of_ble_eq_true rfl) dX0_contradicted_35 ⟨Nat.zero_le _, Nat.zero_le _⟩ (fun H locs hk1 hS => ?_)
      replace hP := keptP hP hk1
      refine puI_S (own := RX0) (As := [.int (nI (dg (rp a) i2)), .int (nI (dg (itS (lkN ts fs) ru (gsS rp (hsS tr on lt 6) 6) 12) i2))]) (rest := []) ⟨hx, hb, hml, hown, hts⟩ (c_X0_isAgainst l D (dg (rp a) i2) (dg (itS (lkN ts fs) ru (gsS rp (hsS tr on lt 6) 6) 12) i2) (dg_lt _ _) (dg_lt _ _)) gX0_contradicted_X0_isAgainst rfl ⟨rfl, rfl⟩ 2 rfl (by decide +kernel) ⟨Nat.le_of_ble_eq_true rfl, Nat.le_of_ble_eq_true rfl⟩ nilP (hK.sub (tys' := []) [] rfl) hS hl.1 rfl (Nat.le_of_ble_eq_true rfl) dX0_contradicted_38 ⟨Nat.zero_le _, Nat.zero_le _⟩ (fun H locs hk1 hS => ?_)
      replace hP := keptP hP hk1
      refine lv_if_eq (tgt := 47) hx hb dX0_contradicted_41 (by decide) (fun c_4 => ?_) (fun c_4 => ?_)
      · have e_41 := bI_0 c_4
        refine lv_iinc (v := nI (i2 + 1)) (lv' := [(4, .int (nI (i2 + 1))), (3, .int (nI (ctS (fun b => dg (rp a) b) (fun b => dg (itS (lkN ts fs) ru (gsS rp (hsS tr on lt 6) 6) 12) b) i2))), (2, .int (nI (itS (lkN ts fs) ru (gsS rp (hsS tr on lt 6) 6) 12))), (0, .ref (ad 0)), (1, .int (nI a))]) hx hb dX0_contradicted_47 hl (k := 0) rfl (iinc1 _) (by decide) rfl (fun ls hl => ?_)
        refine lv_goto (tgt := 14) hx hb dX0_contradicted_50 (by decide) ?_
        exact ih_i2 (i2 + 1) (by omega) H locs ls hP hS (by have h9 := lv_sub hl [0, 1, 2, 3, 4] rfl; rw [show ctS (fun b => dg (rp a) b) (fun b => dg (itS (lkN ts fs) ru (gsS rp (hsS tr on lt 6) 6) 12) b) (i2 + 1) = ctS (fun b => dg (rp a) b) (fun b => dg (itS (lkN ts fs) ru (gsS rp (hsS tr on lt 6) 6) 12) b) i2 from if_neg (fun q => Bool.noConfusion (e_41.symm.trans q))]; exact h9)
      · have e_41 := bI_1 c_4
        refine lv_iinc (v := nI ((ctS (fun b => dg (rp a) b) (fun b => dg (itS (lkN ts fs) ru (gsS rp (hsS tr on lt 6) 6) 12) b) i2) + 1)) (lv' := [(3, .int (nI ((ctS (fun b => dg (rp a) b) (fun b => dg (itS (lkN ts fs) ru (gsS rp (hsS tr on lt 6) 6) 12) b) i2) + 1))), (4, .int (nI i2)), (2, .int (nI (itS (lkN ts fs) ru (gsS rp (hsS tr on lt 6) 6) 12))), (0, .ref (ad 0)), (1, .int (nI a))]) hx hb dX0_contradicted_44 hl (k := 1) rfl (iinc1 _) (by decide) rfl (fun ls hl => ?_)
        refine lv_iinc (v := nI (i2 + 1)) (lv' := [(4, .int (nI (i2 + 1))), (3, .int (nI ((ctS (fun b => dg (rp a) b) (fun b => dg (itS (lkN ts fs) ru (gsS rp (hsS tr on lt 6) 6) 12) b) i2) + 1))), (2, .int (nI (itS (lkN ts fs) ru (gsS rp (hsS tr on lt 6) 6) 12))), (0, .ref (ad 0)), (1, .int (nI a))]) hx hb dX0_contradicted_47 hl (k := 1) rfl (iinc1 _) (by decide) rfl (fun ls hl => ?_)
        refine lv_goto (tgt := 14) hx hb dX0_contradicted_50 (by decide) ?_
        exact ih_i2 (i2 + 1) (by omega) H locs ls hP hS (by have h9 := lv_sub hl [0, 1, 2, 3, 4] rfl; rw [show ctS (fun b => dg (rp a) b) (fun b => dg (itS (lkN ts fs) ru (gsS rp (hsS tr on lt 6) 6) 12) b) (i2 + 1) = ctS (fun b => dg (rp a) b) (fun b => dg (itS (lkN ts fs) ru (gsS rp (hsS tr on lt 6) 6) 12) b) i2 + 1 from if_pos e_41]; exact h9)
  exact key1 (6) 0 (by omega) _ _ ls hP hS (lv_sub hl [0, 1, 2, 3, 4] rfl)

def rm_X0_valueAt : Room := { frames := 2, cells := 0, slots := 0, locals := 46 }
set_option maxHeartbeats 4000000 in
set_option maxRecDepth 100000 in
theorem c_X0_valueAt (hO : OKC n tr rp lt lg ru) (f v : Nat) (hf : f < n) (hv : v < 4096) : PuI l yX0_valueAt wsX0_valueAt rm_X0_valueAt D vwCl (wC ad cI cZ cJ n kd sd ts fs tr on rp lt ru lg lp) (tyC cI cZ cJ) [.ref (ad 0), .int (nI f), .int (nI v)] (nI (lkN ts fs f v)) := by
  refine PuI.of (cc := cX0_valueAt) (maxL := 3) (by decide) rfl (Nat.le_of_ble_eq_true rfl) (vp_nar_int _) ?_
  intro p e s m args below meth c Q ls hx hb hml hown hts hP hK kret hl
  have hown : s.vm.findClass RX0 = some m.cls := hown
  have hl : lv_has ls 3 [(0, .ref (ad 0)), (1, .int (nI f)), (2, .int (nI v))] := hl
  have hS : va_S (fun _ => False) s.heap s.heap [] := va_S.rf
  have hn40 := hO.1
  refine lv_aload_n hx hb dX0_valueAt_0 rfl (lv_at hl 0 rfl) ?_
  refine lv_iload_n hx hb dX0_valueAt_1 rfl (lv_at hl 1 rfl) ?_
  refine puV_V (own := RX0) (As := [.int (nI f)]) (rest := []) (C := RX0) (ci := 0) (q0 := 0) ⟨hx, hb, hml, hown, hts⟩ (c_X0_requireFormula l D ad cI cZ cJ n kd sd ts fs tr on rp lt ru lg lp hO f (by omega)) gX0_valueAt_X0_requireFormula rfl ⟨rfl, rfl⟩ 1 rfl (by decide +kernel) ⟨Nat.le_of_ble_eq_true rfl, Nat.le_of_ble_eq_true rfl⟩ hP hK rfl rfl rfl hS hl.1 rfl (Nat.le_of_ble_eq_true rfl) dX0_valueAt_2 ⟨Nat.zero_le _, Nat.zero_le _⟩ (fun H locs hk1 hS => ?_)
  replace hP := keptP hP hk1
  refine lv_iload_n hx hb dX0_valueAt_5 rfl (lv_at hl 2 rfl) ?_
  refine zF_lt (tgt := 16) hx hb dX0_valueAt_6 (by decide) (nI_pos (by omega)) ?_
  refine lv_iload_n hx hb dX0_valueAt_9 rfl (lv_at hl 2 rfl) ?_
  refine lv_sipush (v := nI 4096) hx hb dX0_valueAt_10 (by decide) ?_
  refine cT_lt (tgt := 26) hx hb dX0_valueAt_13 (by decide) (nI_lt (by omega) (by omega)) ?_
  refine lv_aload_n hx hb dX0_valueAt_26 rfl (lv_at hl 0 rfl) ?_
  refine lv_iload_n hx hb dX0_valueAt_27 rfl (lv_at hl 1 rfl) ?_
  refine lv_iload_n hx hb dX0_valueAt_28 rfl (lv_at hl 2 rfl) ?_
  refine puI_V (own := RX0) (As := [.int (nI f), .int (nI v)]) (rest := []) (C := RX0) (ci := 0) (q0 := 0) ⟨hx, hb, hml, hown, hts⟩ (c_X0_lookUp l D ad cI cZ cJ n kd sd ts fs tr on rp lt ru lg lp f v (by omega) (by omega)) gX0_valueAt_X0_lookUp rfl ⟨rfl, rfl⟩ 2 rfl (by decide +kernel) ⟨Nat.le_of_ble_eq_true rfl, Nat.le_of_ble_eq_true rfl⟩ hP hK rfl rfl rfl hS hl.1 rfl (Nat.le_of_ble_eq_true rfl) dX0_valueAt_29 ⟨Nat.zero_le _, Nat.zero_le _⟩ (fun H locs hk1 hS => ?_)
  replace hP := keptP hP hk1
  exact kret _ _ _ _ _ (rfl) hS dX0_valueAt_32

theorem hin_X0_isSteady : ∀ w ∈ wsX00, w ∈ wsX0_isSteady := by first | exact fun _ h => List.mem_cons_of_mem _ (List.mem_append_right _ h) | exact fun _ h => List.mem_cons_of_mem _ (List.mem_append_left _ (List.mem_append_right _ h)) | exact fun _ h => List.mem_cons_of_mem _ (List.mem_append_left _ (List.mem_append_left _ (List.mem_append_right _ h))) | exact fun _ h => List.mem_cons_of_mem _ (List.mem_append_left _ (List.mem_append_left _ (List.mem_append_left _ (List.mem_append_right _ h)))) | decide +kernel
def rm_X0_isSteady : Room := { frames := 1, cells := 0, slots := 0, locals := 21 }
set_option maxHeartbeats 4000000 in
set_option maxRecDepth 100000 in
theorem c_X0_isSteady (hO : OKC n tr rp lt lg ru) (f : Nat) (hf : f < n) : PuI l yX0_isSteady wsX0_isSteady rm_X0_isSteady D vwCl (wC ad cI cZ cJ n kd sd ts fs tr on rp lt ru lg lp) (tyC cI cZ cJ) [.ref (ad 0), .int (nI f)] (bI (sd f)) := by
  refine PuI.of (cc := cX0_isSteady) (maxL := 2) (by decide) rfl (Nat.le_of_ble_eq_true rfl) (bI_n _) ?_
  intro p e s m args below meth c Q ls hx hb hml hown hts hP hK kret hl
  have hown : s.vm.findClass RX0 = some m.cls := hown
  have hl : lv_has ls 2 [(0, .ref (ad 0)), (1, .int (nI f))] := hl
  have hS : va_S (fun _ => False) s.heap s.heap [] := va_S.rf
  have hin0 : ∀ w ∈ u_ws RX0 TX0 12, w ∈ wsX0_isSteady := hin_X0_isSteady
  have hn40 := hO.1
  refine lv_aload_n hx hb dX0_isSteady_0 rfl (lv_at hl 0 rfl) ?_
  refine lv_iload_n hx hb dX0_isSteady_1 rfl (lv_at hl 1 rfl) ?_
  refine puV_V (own := RX0) (As := [.int (nI f)]) (rest := []) (C := RX0) (ci := 0) (q0 := 0) ⟨hx, hb, hml, hown, hts⟩ (c_X0_requireFormula l D ad cI cZ cJ n kd sd ts fs tr on rp lt ru lg lp hO f (by omega)) gX0_isSteady_X0_requireFormula rfl ⟨rfl, rfl⟩ 1 rfl (by decide +kernel) ⟨Nat.le_of_ble_eq_true rfl, Nat.le_of_ble_eq_true rfl⟩ hP hK rfl rfl rfl hS hl.1 rfl (Nat.le_of_ble_eq_true rfl) dX0_isSteady_2 ⟨Nat.zero_le _, Nat.zero_le _⟩ (fun H locs hk1 hS => ?_)
  replace hP := keptP hP hk1
  refine lv_aload_n hx hb dX0_isSteady_5 rfl (lv_at hl 0 rfl) ?_
  refine va_get (D := D) (ci := 0) (v := .ref (ad 2)) (C := RX0) (T := TX0) (N := 12) hx hb hts hin0 hown hK hP 0 rfl rfl 2 (by decide) (hts (.fieldLink RX0 17 "RumourReasoner" "steady" "[Z") (by decide +kernel)) (fun _ h9 => h9) rfl dX0_isSteady_6 ?_
  refine lv_iload_n hx hb dX0_isSteady_9 rfl (lv_at hl 1 rfl) ?_
  refine ld_nz hx hb hK hP 2 1 rfl rfl (j := f) (by omega) (by decide) dX0_isSteady_10 ?_
  exact kret _ _ _ _ _ (rfl) hS dX0_isSteady_11

theorem hin_X0_formulaCount : ∀ w ∈ wsX00, w ∈ wsX0_formulaCount := by first | exact fun _ h => List.mem_cons_of_mem _ (List.mem_append_right _ h) | exact fun _ h => List.mem_cons_of_mem _ (List.mem_append_left _ (List.mem_append_right _ h)) | exact fun _ h => List.mem_cons_of_mem _ (List.mem_append_left _ (List.mem_append_left _ (List.mem_append_right _ h))) | exact fun _ h => List.mem_cons_of_mem _ (List.mem_append_left _ (List.mem_append_left _ (List.mem_append_left _ (List.mem_append_right _ h)))) | decide +kernel
def rm_X0_formulaCount : Room := { frames := 0, cells := 0, slots := 0, locals := 0 }
set_option maxHeartbeats 4000000 in
set_option maxRecDepth 100000 in
theorem c_X0_formulaCount  : PuI l yX0_formulaCount wsX0_formulaCount rm_X0_formulaCount D vwCl (wC ad cI cZ cJ n kd sd ts fs tr on rp lt ru lg lp) (tyC cI cZ cJ) [.ref (ad 0)] (nI n) := by
  refine PuI.of (cc := cX0_formulaCount) (maxL := 1) (by decide) rfl (Nat.le_of_ble_eq_true rfl) (vp_nar_int _) ?_
  intro p e s m args below meth c Q ls hx hb hml hown hts hP hK kret hl
  have hown : s.vm.findClass RX0 = some m.cls := hown
  have hl : lv_has ls 1 [(0, .ref (ad 0))] := hl
  have hS : va_S (fun _ => False) s.heap s.heap [] := va_S.rf
  have hin0 : ∀ w ∈ u_ws RX0 TX0 12, w ∈ wsX0_formulaCount := hin_X0_formulaCount
  refine lv_aload_n hx hb dX0_formulaCount_0 rfl (lv_at hl 0 rfl) ?_
  refine va_get (D := D) (ci := 0) (v := .int (nI n)) (C := RX0) (T := TX0) (N := 12) hx hb hts hin0 hown hK hP 0 rfl rfl 0 (by decide) (hts (.fieldLink RX0 9 "RumourReasoner" "count" "I") (by decide +kernel)) (fun _ h9 => h9) rfl dX0_formulaCount_1 ?_
  exact kret _ _ _ _ _ (rfl) hS dX0_formulaCount_4

end
