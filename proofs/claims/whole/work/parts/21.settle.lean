section
variable (l : Launch) (D : va_G) (ad : Nat → Nat) (cI cZ cJ : ClassId) (n : Nat) (kd : Nat → Nat) (sd : Nat → Bool) (ts fs : Nat → Int64) (tr : Nat → Nat) (on : Nat → Bool) (rp : Nat → Nat) (lt : Nat) (ru : Nat → Option Nat) (lg : Nat) (lp : Int64)
theorem hin_X0_isHeard : ∀ w ∈ wsX00, w ∈ wsX0_isHeard := by first | exact fun _ h => List.mem_cons_of_mem _ (List.mem_append_right _ h) | exact fun _ h => List.mem_cons_of_mem _ (List.mem_append_left _ (List.mem_append_right _ h)) | exact fun _ h => List.mem_cons_of_mem _ (List.mem_append_left _ (List.mem_append_left _ (List.mem_append_right _ h))) | exact fun _ h => List.mem_cons_of_mem _ (List.mem_append_left _ (List.mem_append_left _ (List.mem_append_left _ (List.mem_append_right _ h)))) | decide +kernel
def rm_X0_isHeard : Room := { frames := 0, cells := 0, slots := 0, locals := 0 }
set_option maxHeartbeats 4000000 in
set_option maxRecDepth 100000 in
theorem c_X0_isHeard (hO : OKC n tr rp lt lg ru) (a : Nat) (ha : a < 6) : PuI l yX0_isHeard wsX0_isHeard rm_X0_isHeard D vwCl (wC ad cI cZ cJ n kd sd ts fs tr on rp lt ru lg lp) (tyC cI cZ cJ) [.ref (ad 0), .int (nI a)] (bI (hdB tr on lt a)) := by
  refine PuI.of (cc := cX0_isHeard) (maxL := 2) (by decide) rfl (Nat.le_of_ble_eq_true rfl) (bI_n _) ?_
  intro p e s m args below meth c Q ls hx hb hml hown hts hP hK kret hl
  have hown : s.vm.findClass RX0 = some m.cls := hown
  have hl : lv_has ls 2 [(0, .ref (ad 0)), (1, .int (nI a))] := hl
  have hS : va_S (fun _ => False) s.heap s.heap [] := va_S.rf
  have hin0 : ∀ w ∈ u_ws RX0 TX0 12, w ∈ wsX0_isHeard := hin_X0_isHeard
  refine lv_aload_n hx hb dX0_isHeard_0 rfl (lv_at hl 0 rfl) ?_
  refine va_get (D := D) (ci := 0) (v := .ref (ad 6)) (C := RX0) (T := TX0) (N := 12) hx hb hts hin0 hown hK hP 0 rfl rfl 6 (by decide) (hts (.fieldLink RX0 31 "RumourReasoner" "on" "[Z") (by decide +kernel)) (fun _ h9 => h9) rfl dX0_isHeard_1 ?_
  refine lv_iload_n hx hb dX0_isHeard_4 rfl (lv_at hl 1 rfl) ?_
  refine ld_nz hx hb hK hP 6 1 rfl rfl (j := a) (by omega) (by decide) dX0_isHeard_5 ?_
  refine lv_if_eq (tgt := 26) hx hb dX0_isHeard_6 (by decide) (fun c_1 => ?_) (fun c_1 => ?_)
  · have e_6 := bI_0 c_1
    refine lv_iconst (v := nI 0) hx hb dX0_isHeard_26 (by decide) ?_
    exact kret _ _ _ _ _ (by unfold hdB; first | (simp only [e_6]; rfl) | (simp [e_6, bI]; done) | (simp [e_6, bI, nI]; done)) hS dX0_isHeard_27
  · have e_6 := bI_1 c_1
    refine lv_aload_n hx hb dX0_isHeard_9 rfl (lv_at hl 0 rfl) ?_
    refine va_get (D := D) (ci := 0) (v := .ref (ad 5)) (C := RX0) (T := TX0) (N := 12) hx hb hts hin0 hown hK hP 0 rfl rfl 5 (by decide) (hts (.fieldLink RX0 28 "RumourReasoner" "trusts" "[I") (by decide +kernel)) (fun _ h9 => h9) rfl dX0_isHeard_10 ?_
    refine lv_iload_n hx hb dX0_isHeard_13 rfl (lv_at hl 1 rfl) ?_
    refine ld_ni hx hb hK hP 5 0 rfl rfl (j := a) (by omega) (by decide) dX0_isHeard_14 ?_
    refine lv_aload_n hx hb dX0_isHeard_15 rfl (lv_at hl 0 rfl) ?_
    refine va_get (D := D) (ci := 0) (v := .int (nI lt)) (C := RX0) (T := TX0) (N := 12) hx hb hts hin0 hown hK hP 0 rfl rfl 8 (by decide) (hts (.fieldLink RX0 37 "RumourReasoner" "leastTrust" "I") (by decide +kernel)) (fun _ h9 => h9) rfl dX0_isHeard_16 ?_
    refine lv_icmp_lt (tgt := 26) hx hb dX0_isHeard_19 (by decide) (fun c_2 => ?_) (fun c_2 => ?_)
    · have e_19 : decide (lt ≤ tr a) = false := decide_eq_false (fun q => nI_nlt q (Nat.lt_of_le_of_lt (hO.2.1 a ha) (by decide)) c_2)
      refine lv_iconst (v := nI 0) hx hb dX0_isHeard_26 (by decide) ?_
      exact kret _ _ _ _ _ (by unfold hdB; first | (simp only [e_6, e_19]; rfl) | (simp [e_6, e_19, bI]; done) | (simp [e_6, e_19, bI, nI]; done)) hS dX0_isHeard_27
    · have e_19 : decide (lt ≤ tr a) = true := decide_eq_true (Nat.not_lt.mp (fun q => c_2 (nI_lt q (Nat.lt_of_le_of_lt hO.2.2.2.1 (by decide)))))
      refine lv_iconst (v := nI 1) hx hb dX0_isHeard_22 (by decide) ?_
      refine lv_goto (tgt := 27) hx hb dX0_isHeard_23 (by decide) ?_
      exact kret _ _ _ _ _ (by unfold hdB; first | (simp only [e_6, e_19]; rfl) | (simp [e_6, e_19, bI]; done) | (simp [e_6, e_19, bI, nI]; done)) hS dX0_isHeard_27

def rm_X0_heard : Room := { frames := 1, cells := 0, slots := 0, locals := 21 }
set_option maxHeartbeats 4000000 in
set_option maxRecDepth 100000 in
theorem c_X0_heard (hO : OKC n tr rp lt lg ru) : PuI l yX0_heard wsX0_heard rm_X0_heard D vwCl (wC ad cI cZ cJ n kd sd ts fs tr on rp lt ru lg lp) (tyC cI cZ cJ) [.ref (ad 0)] (nI (hsS tr on lt 6)) := by
  refine PuI.of (cc := cX0_heard) (maxL := 3) (by decide) rfl (Nat.le_of_ble_eq_true rfl) (vp_nar_int _) ?_
  intro p e s m args below meth c Q ls hx hb hml hown hts hP hK kret hl
  have hown : s.vm.findClass RX0 = some m.cls := hown
  have hl : lv_has ls 3 [(0, .ref (ad 0))] := hl
  have hS : va_S (fun _ => False) s.heap s.heap [] := va_S.rf
  refine lv_iconst (v := nI 0) hx hb dX0_heard_0 (by decide) ?_
  refine lv_istore_n (lv' := [(1, .int (nI 0)), (0, .ref (ad 0))]) hx hb dX0_heard_1 rfl hl (by decide) rfl (fun ls hl => ?_)
  refine lv_iconst (v := nI 0) hx hb dX0_heard_2 (by decide) ?_
  refine lv_istore_n (lv' := [(2, .int (nI 0)), (1, .int (nI 0)), (0, .ref (ad 0))]) hx hb dX0_heard_3 rfl hl (by decide) rfl (fun ls hl => ?_)
  have key1 : ∀ (d3 i2 : Nat), i2 + d3 = 6 → ∀ (H : Heap) (locs : List Loc) (ls : Array Slot), va_P D vwCl (wC ad cI cZ cJ n kd sd ts fs tr on rp lt ru lg lp) H → va_S (fun _ => False) s.heap H locs → lv_has ls 3 [(2, .int (nI i2)), (1, .int (nI (hsS tr on lt i2))), (0, .ref (ad 0))] → W p l e rm_X0_heard s m args below meth c H locs 0 0 Q (F0 m 4 ls []) := by
    intro d3
    induction d3 with
    | zero =>
      intro i2 hi_i2 H locs ls hP hS hl
      obtain rfl : i2 = 6 := by omega
      refine lv_iload_n hx hb dX0_heard_4 rfl (lv_at hl 0 rfl) ?_
      refine lv_bipush (v := nI 6) hx hb dX0_heard_5 (by decide) ?_
      refine cT_ge (tgt := 30) hx hb dX0_heard_7 (by decide) (nI_le (by omega) (by omega)) ?_
      refine lv_iload_n hx hb dX0_heard_30 rfl (lv_at hl 1 rfl) ?_
      exact kret _ _ _ _ _ (rfl) hS dX0_heard_31
    | succ d3 ih_i2 =>
      intro i2 hi_i2 H locs ls hP hS hl
      refine lv_iload_n hx hb dX0_heard_4 rfl (lv_at hl 0 rfl) ?_
      refine lv_bipush (v := nI 6) hx hb dX0_heard_5 (by decide) ?_
      refine cF_ge (tgt := 30) hx hb dX0_heard_7 (by decide) (nI_ge (by omega) (by omega)) ?_
      refine lv_aload_n hx hb dX0_heard_10 rfl (lv_at hl 2 rfl) ?_
      refine lv_iload_n hx hb dX0_heard_11 rfl (lv_at hl 0 rfl) ?_
      refine puI_V (own := RX0) (As := [.int (nI i2)]) (rest := []) (C := RX0) (ci := 0) (q0 := 0) ⟨hx, hb, hml, hown, hts⟩ (c_X0_isHeard l D ad cI cZ cJ n kd sd ts fs tr on rp lt ru lg lp hO i2 (by omega)) gX0_heard_X0_isHeard rfl ⟨rfl, rfl⟩ 1 rfl (by decide +kernel) ⟨Nat.le_of_ble_eq_true rfl, Nat.le_of_ble_eq_true rfl⟩ hP hK rfl rfl rfl hS hl.1 rfl (Nat.le_of_ble_eq_true rfl) dX0_heard_12 ⟨Nat.zero_le _, Nat.zero_le _⟩ (fun H locs hk1 hS => ?_)
      replace hP := keptP hP hk1
      refine lv_if_eq (tgt := 24) hx hb dX0_heard_15 (by decide) (fun c_4 => ?_) (fun c_4 => ?_)
      · have e_15 := bI_0 c_4
        refine lv_iinc (v := nI (i2 + 1)) (lv' := [(2, .int (nI (i2 + 1))), (1, .int (nI (hsS tr on lt i2))), (0, .ref (ad 0))]) hx hb dX0_heard_24 hl (k := 0) rfl (iinc1 _) (by decide) rfl (fun ls hl => ?_)
        refine lv_goto (tgt := 4) hx hb dX0_heard_27 (by decide) ?_
        exact ih_i2 (i2 + 1) (by omega) H locs ls hP hS (by have h9 := lv_sub hl [0, 1, 2] rfl; rw [show hsS tr on lt (i2 + 1) = hsS tr on lt i2 from if_neg (fun q => Bool.noConfusion (e_15.symm.trans q))]; exact h9)
      · have e_15 := bI_1 c_4
        refine lv_iload_n hx hb dX0_heard_18 rfl (lv_at hl 1 rfl) ?_
        refine lv_iconst (v := nI 1) hx hb dX0_heard_19 (by decide) ?_
        refine lv_iload_n hx hb dX0_heard_20 rfl (lv_at hl 0 rfl) ?_
        refine lv_ishl hx hb dX0_heard_21 ?_
        refine tc_int (y := nI (2 ^ i2)) (shl1 (by omega)) ?_
        refine lv_ior hx hb dX0_heard_22 ?_
        refine tc_int (y := nI (hsS tr on lt i2 ||| 2 ^ i2)) (fa_or _ _) ?_
        refine lv_istore_n (lv' := [(1, .int (nI (hsS tr on lt i2 ||| 2 ^ i2))), (2, .int (nI i2)), (0, .ref (ad 0))]) hx hb dX0_heard_23 rfl hl (by decide) rfl (fun ls hl => ?_)
        refine lv_iinc (v := nI (i2 + 1)) (lv' := [(2, .int (nI (i2 + 1))), (1, .int (nI (hsS tr on lt i2 ||| 2 ^ i2))), (0, .ref (ad 0))]) hx hb dX0_heard_24 hl (k := 1) rfl (iinc1 _) (by decide) rfl (fun ls hl => ?_)
        refine lv_goto (tgt := 4) hx hb dX0_heard_27 (by decide) ?_
        exact ih_i2 (i2 + 1) (by omega) H locs ls hP hS (by have h9 := lv_sub hl [0, 1, 2] rfl; rw [show hsS tr on lt (i2 + 1) = hsS tr on lt i2 ||| 2 ^ i2 from if_pos e_15]; exact h9)
  exact key1 (6) 0 (by omega) _ _ ls hP hS (lv_sub hl [0, 1, 2] rfl)

theorem hin_X0_trustOf : ∀ w ∈ wsX00, w ∈ wsX0_trustOf := by first | exact fun _ h => List.mem_cons_of_mem _ (List.mem_append_right _ h) | exact fun _ h => List.mem_cons_of_mem _ (List.mem_append_left _ (List.mem_append_right _ h)) | exact fun _ h => List.mem_cons_of_mem _ (List.mem_append_left _ (List.mem_append_left _ (List.mem_append_right _ h))) | exact fun _ h => List.mem_cons_of_mem _ (List.mem_append_left _ (List.mem_append_left _ (List.mem_append_left _ (List.mem_append_right _ h)))) | decide +kernel
def rm_X0_trustOf : Room := { frames := 0, cells := 0, slots := 0, locals := 0 }
set_option maxHeartbeats 4000000 in
set_option maxRecDepth 100000 in
theorem c_X0_trustOf (hO : OKC n tr rp lt lg ru) (set : Nat) (hset : set < 64) : PuI l yX0_trustOf wsX0_trustOf rm_X0_trustOf D vwCl (wC ad cI cZ cJ n kd sd ts fs tr on rp lt ru lg lp) (tyC cI cZ cJ) [.ref (ad 0), .int (nI set)] (nI (trS tr set 6)) := by
  refine PuI.of (cc := cX0_trustOf) (maxL := 4) (by decide) rfl (Nat.le_of_ble_eq_true rfl) (vp_nar_int _) ?_
  intro p e s m args below meth c Q ls hx hb hml hown hts hP hK kret hl
  have hown : s.vm.findClass RX0 = some m.cls := hown
  have hl : lv_has ls 4 [(0, .ref (ad 0)), (1, .int (nI set))] := hl
  have hS : va_S (fun _ => False) s.heap s.heap [] := va_S.rf
  have hin0 : ∀ w ∈ u_ws RX0 TX0 12, w ∈ wsX0_trustOf := hin_X0_trustOf
  refine lv_iconst (v := nI 0) hx hb dX0_trustOf_0 (by decide) ?_
  refine lv_istore_n (lv' := [(2, .int (nI 0)), (0, .ref (ad 0)), (1, .int (nI set))]) hx hb dX0_trustOf_1 rfl hl (by decide) rfl (fun ls hl => ?_)
  refine lv_iconst (v := nI 0) hx hb dX0_trustOf_2 (by decide) ?_
  refine lv_istore_n (lv' := [(3, .int (nI 0)), (2, .int (nI 0)), (0, .ref (ad 0)), (1, .int (nI set))]) hx hb dX0_trustOf_3 rfl hl (by decide) rfl (fun ls hl => ?_)
  have key1 : ∀ (d3 i2 : Nat), i2 + d3 = 6 → ∀ (H : Heap) (locs : List Loc) (ls : Array Slot), va_P D vwCl (wC ad cI cZ cJ n kd sd ts fs tr on rp lt ru lg lp) H → va_S (fun _ => False) s.heap H locs → lv_has ls 4 [(3, .int (nI i2)), (2, .int (nI (trS tr set i2))), (0, .ref (ad 0)), (1, .int (nI set))] → W p l e rm_X0_trustOf s m args below meth c H locs 0 0 Q (F0 m 4 ls []) := by
    intro d3
    induction d3 with
    | zero =>
      intro i2 hi_i2 H locs ls hP hS hl
      obtain rfl : i2 = 6 := by omega
      refine lv_iload_n hx hb dX0_trustOf_4 rfl (lv_at hl 0 rfl) ?_
      refine lv_bipush (v := nI 6) hx hb dX0_trustOf_5 (by decide) ?_
      refine cT_ge (tgt := 33) hx hb dX0_trustOf_7 (by decide) (nI_le (by omega) (by omega)) ?_
      refine lv_iload_n hx hb dX0_trustOf_33 rfl (lv_at hl 1 rfl) ?_
      exact kret _ _ _ _ _ (rfl) hS dX0_trustOf_34
    | succ d3 ih_i2 =>
      intro i2 hi_i2 H locs ls hP hS hl
      refine lv_iload_n hx hb dX0_trustOf_4 rfl (lv_at hl 0 rfl) ?_
      refine lv_bipush (v := nI 6) hx hb dX0_trustOf_5 (by decide) ?_
      refine cF_ge (tgt := 33) hx hb dX0_trustOf_7 (by decide) (nI_ge (by omega) (by omega)) ?_
      refine lv_iload_n hx hb dX0_trustOf_10 rfl (lv_at hl 3 rfl) ?_
      refine lv_iload_n hx hb dX0_trustOf_11 rfl (lv_at hl 0 rfl) ?_
      refine lv_iushr (v := ((nI set).toUInt32 >>> ((nI i2).toUInt32 &&& Int32.toUInt32 31)).toInt32) hx hb dX0_trustOf_12 rfl ?_
      refine tc_int (y := nI (set / 2 ^ i2)) (ushN (by omega) (by omega)) ?_
      refine lv_iconst (v := nI 1) hx hb dX0_trustOf_13 (by decide) ?_
      refine lv_iand hx hb dX0_trustOf_14 ?_
      refine tc_int (y := nI (set / 2 ^ i2 % 2)) (and1 (Nat.lt_of_le_of_lt (Nat.div_le_self _ _) (by omega))) ?_
      refine lv_if_eq (tgt := 27) hx hb dX0_trustOf_15 (by decide) (fun c_4 => ?_) (fun c_4 => ?_)
      · have e_15 := bit0.mp c_4
        refine lv_iinc (v := nI (i2 + 1)) (lv' := [(3, .int (nI (i2 + 1))), (2, .int (nI (trS tr set i2))), (0, .ref (ad 0)), (1, .int (nI set))]) hx hb dX0_trustOf_27 hl (k := 0) rfl (iinc1 _) (by decide) rfl (fun ls hl => ?_)
        refine lv_goto (tgt := 4) hx hb dX0_trustOf_30 (by decide) ?_
        exact ih_i2 (i2 + 1) (by omega) H locs ls hP hS (by have h9 := lv_sub hl [0, 1, 2, 3] rfl; rw [show trS tr set (i2 + 1) = trS tr set i2 from if_neg (fun q => Bool.noConfusion (e_15.symm.trans q))]; exact h9)
      · have e_15 : Nat.testBit set i2 = true := ts_nf (fun q => c_4 (bit0.mpr q))
        refine lv_iload_n hx hb dX0_trustOf_18 rfl (lv_at hl 1 rfl) ?_
        refine lv_aload_n hx hb dX0_trustOf_19 rfl (lv_at hl 2 rfl) ?_
        refine va_get (D := D) (ci := 0) (v := .ref (ad 5)) (C := RX0) (T := TX0) (N := 12) hx hb hts hin0 hown hK hP 0 rfl rfl 5 (by decide) (hts (.fieldLink RX0 28 "RumourReasoner" "trusts" "[I") (by decide +kernel)) (fun _ h9 => h9) rfl dX0_trustOf_20 ?_
        refine lv_iload_n hx hb dX0_trustOf_23 rfl (lv_at hl 0 rfl) ?_
        refine ld_ni hx hb hK hP 5 0 rfl rfl (j := i2) (by omega) (by decide) dX0_trustOf_24 ?_
        refine lv_iadd hx hb dX0_trustOf_25 ?_
        refine tc_int (y := nI ((trS tr set i2) + (tr i2))) (nI_add _ _) ?_
        refine lv_istore_n (lv' := [(2, .int (nI ((trS tr set i2) + (tr i2)))), (3, .int (nI i2)), (0, .ref (ad 0)), (1, .int (nI set))]) hx hb dX0_trustOf_26 rfl hl (by decide) rfl (fun ls hl => ?_)
        refine lv_iinc (v := nI (i2 + 1)) (lv' := [(3, .int (nI (i2 + 1))), (2, .int (nI ((trS tr set i2) + (tr i2)))), (0, .ref (ad 0)), (1, .int (nI set))]) hx hb dX0_trustOf_27 hl (k := 1) rfl (iinc1 _) (by decide) rfl (fun ls hl => ?_)
        refine lv_goto (tgt := 4) hx hb dX0_trustOf_30 (by decide) ?_
        exact ih_i2 (i2 + 1) (by omega) H locs ls hP hS (by have h9 := lv_sub hl [0, 1, 2, 3] rfl; rw [show trS tr set (i2 + 1) = trS tr set i2 + tr i2 from if_pos e_15]; exact h9)
  exact key1 (6) 0 (by omega) _ _ ls hP hS (lv_sub hl [0, 1, 2, 3] rfl)

theorem hin_X0_givenState : ∀ w ∈ wsX00, w ∈ wsX0_givenState := by first | exact fun _ h => List.mem_cons_of_mem _ (List.mem_append_right _ h) | exact fun _ h => List.mem_cons_of_mem _ (List.mem_append_left _ (List.mem_append_right _ h)) | exact fun _ h => List.mem_cons_of_mem _ (List.mem_append_left _ (List.mem_append_left _ (List.mem_append_right _ h))) | exact fun _ h => List.mem_cons_of_mem _ (List.mem_append_left _ (List.mem_append_left _ (List.mem_append_left _ (List.mem_append_right _ h)))) | decide +kernel
def rm_X0_givenState : Room := { frames := 0, cells := 0, slots := 0, locals := 0 }
set_option maxHeartbeats 4000000 in
set_option maxRecDepth 100000 in
theorem c_X0_givenState (hO : OKC n tr rp lt lg ru) (set : Nat) (hset : set < 64) : PuI l yX0_givenState wsX0_givenState rm_X0_givenState D vwCl (wC ad cI cZ cJ n kd sd ts fs tr on rp lt ru lg lp) (tyC cI cZ cJ) [.ref (ad 0), .int (nI set)] (nI (gsS rp set 6)) := by
  refine PuI.of (cc := cX0_givenState) (maxL := 4) (by decide) rfl (Nat.le_of_ble_eq_true rfl) (vp_nar_int _) ?_
  intro p e s m args below meth c Q ls hx hb hml hown hts hP hK kret hl
  have hown : s.vm.findClass RX0 = some m.cls := hown
  have hl : lv_has ls 4 [(0, .ref (ad 0)), (1, .int (nI set))] := hl
  have hS : va_S (fun _ => False) s.heap s.heap [] := va_S.rf
  have hin0 : ∀ w ∈ u_ws RX0 TX0 12, w ∈ wsX0_givenState := hin_X0_givenState
  refine lv_iconst (v := nI 0) hx hb dX0_givenState_0 (by decide) ?_
  refine lv_istore_n (lv' := [(2, .int (nI 0)), (0, .ref (ad 0)), (1, .int (nI set))]) hx hb dX0_givenState_1 rfl hl (by decide) rfl (fun ls hl => ?_)
  refine lv_iconst (v := nI 0) hx hb dX0_givenState_2 (by decide) ?_
  refine lv_istore_n (lv' := [(3, .int (nI 0)), (2, .int (nI 0)), (0, .ref (ad 0)), (1, .int (nI set))]) hx hb dX0_givenState_3 rfl hl (by decide) rfl (fun ls hl => ?_)
  have key1 : ∀ (d3 i2 : Nat), i2 + d3 = 6 → ∀ (H : Heap) (locs : List Loc) (ls : Array Slot), va_P D vwCl (wC ad cI cZ cJ n kd sd ts fs tr on rp lt ru lg lp) H → va_S (fun _ => False) s.heap H locs → lv_has ls 4 [(3, .int (nI i2)), (2, .int (nI (gsS rp set i2))), (0, .ref (ad 0)), (1, .int (nI set))] → W p l e rm_X0_givenState s m args below meth c H locs 0 0 Q (F0 m 4 ls []) := by
    intro d3
    induction d3 with
    | zero =>
      intro i2 hi_i2 H locs ls hP hS hl
      obtain rfl : i2 = 6 := by omega
      refine lv_iload_n hx hb dX0_givenState_4 rfl (lv_at hl 0 rfl) ?_
      refine lv_bipush (v := nI 6) hx hb dX0_givenState_5 (by decide) ?_
      refine cT_ge (tgt := 33) hx hb dX0_givenState_7 (by decide) (nI_le (by omega) (by omega)) ?_
      refine lv_iload_n hx hb dX0_givenState_33 rfl (lv_at hl 1 rfl) ?_
      exact kret _ _ _ _ _ (rfl) hS dX0_givenState_34
    | succ d3 ih_i2 =>
      intro i2 hi_i2 H locs ls hP hS hl
      refine lv_iload_n hx hb dX0_givenState_4 rfl (lv_at hl 0 rfl) ?_
      refine lv_bipush (v := nI 6) hx hb dX0_givenState_5 (by decide) ?_
      refine cF_ge (tgt := 33) hx hb dX0_givenState_7 (by decide) (nI_ge (by omega) (by omega)) ?_
      refine lv_iload_n hx hb dX0_givenState_10 rfl (lv_at hl 3 rfl) ?_
      refine lv_iload_n hx hb dX0_givenState_11 rfl (lv_at hl 0 rfl) ?_
      refine lv_iushr (v := ((nI set).toUInt32 >>> ((nI i2).toUInt32 &&& Int32.toUInt32 31)).toInt32) hx hb dX0_givenState_12 rfl ?_
      refine tc_int (y := nI (set / 2 ^ i2)) (ushN (by omega) (by omega)) ?_
      refine lv_iconst (v := nI 1) hx hb dX0_givenState_13 (by decide) ?_
      refine lv_iand hx hb dX0_givenState_14 ?_
      refine tc_int (y := nI (set / 2 ^ i2 % 2)) (and1 (Nat.lt_of_le_of_lt (Nat.div_le_self _ _) (by omega))) ?_
      refine lv_if_eq (tgt := 27) hx hb dX0_givenState_15 (by decide) (fun c_4 => ?_) (fun c_4 => ?_)
      · have e_15 := bit0.mp c_4
        refine lv_iinc (v := nI (i2 + 1)) (lv' := [(3, .int (nI (i2 + 1))), (2, .int (nI (gsS rp set i2))), (0, .ref (ad 0)), (1, .int (nI set))]) hx hb dX0_givenState_27 hl (k := 0) rfl (iinc1 _) (by decide) rfl (fun ls hl => ?_)
        refine lv_goto (tgt := 4) hx hb dX0_givenState_30 (by decide) ?_
        exact ih_i2 (i2 + 1) (by omega) H locs ls hP hS (by have h9 := lv_sub hl [0, 1, 2, 3] rfl; rw [show gsS rp set (i2 + 1) = gsS rp set i2 from if_neg (fun q => Bool.noConfusion (e_15.symm.trans q))]; exact h9)
      · have e_15 : Nat.testBit set i2 = true := ts_nf (fun q => c_4 (bit0.mpr q))
        refine lv_iload_n hx hb dX0_givenState_18 rfl (lv_at hl 1 rfl) ?_
        refine lv_aload_n hx hb dX0_givenState_19 rfl (lv_at hl 2 rfl) ?_
        refine va_get (D := D) (ci := 0) (v := .ref (ad 7)) (C := RX0) (T := TX0) (N := 12) hx hb hts hin0 hown hK hP 0 rfl rfl 7 (by decide) (hts (.fieldLink RX0 34 "RumourReasoner" "reports" "[I") (by decide +kernel)) (fun _ h9 => h9) rfl dX0_givenState_20 ?_
        refine lv_iload_n hx hb dX0_givenState_23 rfl (lv_at hl 0 rfl) ?_
        refine ld_ni hx hb hK hP 7 0 rfl rfl (j := i2) (by omega) (by decide) dX0_givenState_24 ?_
        refine lv_ior hx hb dX0_givenState_25 ?_
        refine tc_int (y := nI (gsS rp set i2 ||| rp i2)) (fa_or _ _) ?_
        refine lv_istore_n (lv' := [(2, .int (nI (gsS rp set i2 ||| rp i2))), (3, .int (nI i2)), (0, .ref (ad 0)), (1, .int (nI set))]) hx hb dX0_givenState_26 rfl hl (by decide) rfl (fun ls hl => ?_)
        refine lv_iinc (v := nI (i2 + 1)) (lv' := [(3, .int (nI (i2 + 1))), (2, .int (nI (gsS rp set i2 ||| rp i2))), (0, .ref (ad 0)), (1, .int (nI set))]) hx hb dX0_givenState_27 hl (k := 1) rfl (iinc1 _) (by decide) rfl (fun ls hl => ?_)
        refine lv_goto (tgt := 4) hx hb dX0_givenState_30 (by decide) ?_
        exact ih_i2 (i2 + 1) (by omega) H locs ls hP hS (by have h9 := lv_sub hl [0, 1, 2, 3] rfl; rw [show gsS rp set (i2 + 1) = gsS rp set i2 ||| rp i2 from if_pos e_15]; exact h9)
  exact key1 (6) 0 (by omega) _ _ ls hP hS (lv_sub hl [0, 1, 2, 3] rfl)

theorem hin_X0_lookUp : ∀ w ∈ wsX00, w ∈ wsX0_lookUp := by first | exact fun _ h => List.mem_cons_of_mem _ (List.mem_append_right _ h) | exact fun _ h => List.mem_cons_of_mem _ (List.mem_append_left _ (List.mem_append_right _ h)) | exact fun _ h => List.mem_cons_of_mem _ (List.mem_append_left _ (List.mem_append_left _ (List.mem_append_right _ h))) | exact fun _ h => List.mem_cons_of_mem _ (List.mem_append_left _ (List.mem_append_left _ (List.mem_append_left _ (List.mem_append_right _ h)))) | decide +kernel
def rm_X0_lookUp : Room := { frames := 1, cells := 0, slots := 0, locals := 20 }
set_option maxHeartbeats 4000000 in
set_option maxRecDepth 100000 in
theorem c_X0_lookUp (f v : Nat) (hf : f < 40) (hv : v < 4096) : PuI l yX0_lookUp wsX0_lookUp rm_X0_lookUp D vwCl (wC ad cI cZ cJ n kd sd ts fs tr on rp lt ru lg lp) (tyC cI cZ cJ) [.ref (ad 0), .int (nI f), .int (nI v)] (nI (lkN ts fs f v)) := by
  refine PuI.of (cc := cX0_lookUp) (maxL := 7) (by decide) rfl (Nat.le_of_ble_eq_true rfl) (vp_nar_int _) ?_
  intro p e s m args below meth c Q ls hx hb hml hown hts hP hK kret hl
  have hown : s.vm.findClass RX0 = some m.cls := hown
  have hl : lv_has ls 7 [(0, .ref (ad 0)), (1, .int (nI f)), (2, .int (nI v))] := hl
  have hS : va_S (fun _ => False) s.heap s.heap [] := va_S.rf
  have hin0 : ∀ w ∈ u_ws RX0 TX0 12, w ∈ wsX0_lookUp := hin_X0_lookUp
  refine lv_iload_n hx hb dX0_lookUp_0 rfl (lv_at hl 1 rfl) ?_
  refine puI_S (own := RX0) (As := [.int (nI f)]) (rest := []) ⟨hx, hb, hml, hown, hts⟩ (c_X0_rowOf l D f) gX0_lookUp_X0_rowOf rfl ⟨rfl, rfl⟩ 1 rfl (by decide +kernel) ⟨Nat.le_of_ble_eq_true rfl, Nat.le_of_ble_eq_true rfl⟩ nilP (hK.sub (tys' := []) [] rfl) hS hl.1 rfl (Nat.le_of_ble_eq_true rfl) dX0_lookUp_1 ⟨Nat.zero_le _, Nat.zero_le _⟩ (fun H locs hk1 hS => ?_)
  replace hP := keptP hP hk1
  refine lv_iload_n hx hb dX0_lookUp_4 rfl (lv_at hl 2 rfl) ?_
  refine lv_bipush (v := nI 64) hx hb dX0_lookUp_5 (by decide) ?_
  refine lv_idiv hx hb dX0_lookUp_7 (by decide) ?_
  refine tc_int (y := nI (v / 64)) (pk_div (by omega) (by omega) (by omega)) ?_
  refine lv_iadd hx hb dX0_lookUp_8 ?_
  refine tc_int (y := nI ((f * 64) + (v / 64))) (nI_add _ _) ?_
  refine lv_istore_n (lv' := [(3, .int (nI ((f * 64) + (v / 64)))), (0, .ref (ad 0)), (1, .int (nI f)), (2, .int (nI v))]) hx hb dX0_lookUp_9 rfl hl (by decide) rfl (fun ls hl => ?_)
  refine lv_iload_n hx hb dX0_lookUp_10 rfl (lv_at hl 3 rfl) ?_
  refine lv_bipush (v := nI 64) hx hb dX0_lookUp_11 (by decide) ?_
  refine lv_irem hx hb dX0_lookUp_13 (by decide) ?_
  refine tc_int (y := nI (v % 64)) (pk_rem (by omega) (by omega) (by omega)) ?_
  refine lv_istore (lv' := [(4, .int (nI (v % 64))), (3, .int (nI ((f * 64) + (v / 64)))), (0, .ref (ad 0)), (1, .int (nI f)), (2, .int (nI v))]) hx hb dX0_lookUp_14 hl (by decide) rfl (fun ls hl => ?_)
  refine lv_aload_n hx hb dX0_lookUp_16 rfl (lv_at hl 2 rfl) ?_
  refine va_get (D := D) (ci := 0) (v := .ref (ad 3)) (C := RX0) (T := TX0) (N := 12) hx hb hts hin0 hown hK hP 0 rfl rfl 3 (by decide) (hts (.fieldLink RX0 21 "RumourReasoner" "trueSets" "[J") (by decide +kernel)) (fun _ h9 => h9) rfl dX0_lookUp_17 ?_
  refine lv_iload_n hx hb dX0_lookUp_20 rfl (lv_at hl 1 rfl) ?_
  refine ld_nl hx hb hK hP 3 2 rfl rfl (j := ((f * 64) + (v / 64))) (by omega) (by decide) dX0_lookUp_21 ?_
  refine lv_iload hx hb dX0_lookUp_22 (lv_at hl 0 rfl) ?_
  refine lv_lushr (v := ((ts ((f * 64) + (v / 64))).toUInt64 >>> ((nI (v % 64)).toInt64.toUInt64 &&& Int64.toUInt64 63)).toInt64) hx hb dX0_lookUp_24 rfl ?_
  refine lv_lconst (v := 1) hx hb dX0_lookUp_25 (by decide) ?_
  refine lv_land hx hb dX0_lookUp_26 ?_
  refine lv_l2i (v := ((((ts ((f * 64) + (v / 64))).toUInt64 >>> ((nI (v % 64)).toInt64.toUInt64 &&& Int64.toUInt64 63)).toInt64) &&& 1).toInt32) hx hb dX0_lookUp_27 rfl ?_
  refine tc_int (y := nI (b2n (tb (ts (f * 64 + v / 64)) (v % 64)))) (lkb _ (Nat.mod_lt _ (by decide))) ?_
  refine lv_istore (lv' := [(5, .int (nI (b2n (tb (ts (f * 64 + v / 64)) (v % 64))))), (4, .int (nI (v % 64))), (3, .int (nI ((f * 64) + (v / 64)))), (0, .ref (ad 0)), (1, .int (nI f)), (2, .int (nI v))]) hx hb dX0_lookUp_28 hl (by decide) rfl (fun ls hl => ?_)
  refine lv_aload_n hx hb dX0_lookUp_30 rfl (lv_at hl 3 rfl) ?_
  refine va_get (D := D) (ci := 0) (v := .ref (ad 4)) (C := RX0) (T := TX0) (N := 12) hx hb hts hin0 hown hK hP 0 rfl rfl 4 (by decide) (hts (.fieldLink RX0 25 "RumourReasoner" "falseSets" "[J") (by decide +kernel)) (fun _ h9 => h9) rfl dX0_lookUp_31 ?_
  refine lv_iload_n hx hb dX0_lookUp_34 rfl (lv_at hl 2 rfl) ?_
  refine ld_nl hx hb hK hP 4 2 rfl rfl (j := ((f * 64) + (v / 64))) (by omega) (by decide) dX0_lookUp_35 ?_
  refine lv_iload hx hb dX0_lookUp_36 (lv_at hl 1 rfl) ?_
  refine lv_lushr (v := ((fs ((f * 64) + (v / 64))).toUInt64 >>> ((nI (v % 64)).toInt64.toUInt64 &&& Int64.toUInt64 63)).toInt64) hx hb dX0_lookUp_38 rfl ?_
  refine lv_lconst (v := 1) hx hb dX0_lookUp_39 (by decide) ?_
  refine lv_land hx hb dX0_lookUp_40 ?_
  refine lv_l2i (v := ((((fs ((f * 64) + (v / 64))).toUInt64 >>> ((nI (v % 64)).toInt64.toUInt64 &&& Int64.toUInt64 63)).toInt64) &&& 1).toInt32) hx hb dX0_lookUp_41 rfl ?_
  refine tc_int (y := nI (b2n (tb (fs (f * 64 + v / 64)) (v % 64)))) (lkb _ (Nat.mod_lt _ (by decide))) ?_
  refine lv_istore (lv' := [(6, .int (nI (b2n (tb (fs (f * 64 + v / 64)) (v % 64))))), (5, .int (nI (b2n (tb (ts (f * 64 + v / 64)) (v % 64))))), (4, .int (nI (v % 64))), (3, .int (nI ((f * 64) + (v / 64)))), (0, .ref (ad 0)), (1, .int (nI f)), (2, .int (nI v))]) hx hb dX0_lookUp_42 hl (by decide) rfl (fun ls hl => ?_)
  refine lv_iload hx hb dX0_lookUp_44 (lv_at hl 1 rfl) ?_
  refine lv_iconst (v := nI 1) hx hb dX0_lookUp_46 (by decide) ?_
  refine lv_imul hx hb dX0_lookUp_47 ?_
  refine tc_int (y := nI ((b2n (tb (ts (f * 64 + v / 64)) (v % 64))) * 1)) (pk_mul _ _) ?_
  refine lv_iload hx hb dX0_lookUp_48 (lv_at hl 0 rfl) ?_
  refine lv_iconst (v := nI 2) hx hb dX0_lookUp_50 (by decide) ?_
  refine lv_imul hx hb dX0_lookUp_51 ?_
  refine tc_int (y := nI ((b2n (tb (fs (f * 64 + v / 64)) (v % 64))) * 2)) (pk_mul _ _) ?_
  refine lv_iadd hx hb dX0_lookUp_52 ?_
  refine tc_int (y := nI (lkN ts fs f v)) (by rw [nI_add]; unfold lkN; congr 1; omega) ?_
  exact kret _ _ _ _ _ (rfl) hS dX0_lookUp_53

theorem hin_X0_nextState : ∀ w ∈ wsX00, w ∈ wsX0_nextState := by first | exact fun _ h => List.mem_cons_of_mem _ (List.mem_append_right _ h) | exact fun _ h => List.mem_cons_of_mem _ (List.mem_append_left _ (List.mem_append_right _ h)) | exact fun _ h => List.mem_cons_of_mem _ (List.mem_append_left _ (List.mem_append_left _ (List.mem_append_right _ h))) | exact fun _ h => List.mem_cons_of_mem _ (List.mem_append_left _ (List.mem_append_left _ (List.mem_append_left _ (List.mem_append_right _ h)))) | decide +kernel
def rm_X0_nextState : Room := { frames := 2, cells := 0, slots := 0, locals := 46 }
set_option maxHeartbeats 4000000 in
set_option maxRecDepth 100000 in
theorem c_X0_nextState (hO : OKC n tr rp lt lg ru) (first st : Nat) (hst : st < 4096) : PuI l yX0_nextState wsX0_nextState rm_X0_nextState D vwCl (wC ad cI cZ cJ n kd sd ts fs tr on rp lt ru lg lp) (tyC cI cZ cJ) [.ref (ad 0), .int (nI first), .int (nI st)] (nI (nxS (lkN ts fs) ru first st 6)) := by
  refine PuI.of (cc := cX0_nextState) (maxL := 5) (by decide) rfl (Nat.le_of_ble_eq_true rfl) (vp_nar_int _) ?_
  intro p e s m args below meth c Q ls hx hb hml hown hts hP hK kret hl
  have hown : s.vm.findClass RX0 = some m.cls := hown
  have hl : lv_has ls 5 [(0, .ref (ad 0)), (1, .int (nI first)), (2, .int (nI st))] := hl
  have hS : va_S (fun _ => False) s.heap s.heap [] := va_S.rf
  have hin0 : ∀ w ∈ u_ws RX0 TX0 12, w ∈ wsX0_nextState := hin_X0_nextState
  refine lv_iload_n hx hb dX0_nextState_0 rfl (lv_at hl 1 rfl) ?_
  refine lv_istore_n (lv' := [(3, .int (nI first)), (0, .ref (ad 0)), (1, .int (nI first)), (2, .int (nI st))]) hx hb dX0_nextState_1 rfl hl (by decide) rfl (fun ls hl => ?_)
  refine lv_iconst (v := nI 0) hx hb dX0_nextState_2 (by decide) ?_
  refine lv_istore (lv' := [(4, .int (nI 0)), (3, .int (nI first)), (0, .ref (ad 0)), (1, .int (nI first)), (2, .int (nI st))]) hx hb dX0_nextState_3 hl (by decide) rfl (fun ls hl => ?_)
  have key1 : ∀ (d3 i2 : Nat), i2 + d3 = 6 → ∀ (H : Heap) (locs : List Loc) (ls : Array Slot), va_P D vwCl (wC ad cI cZ cJ n kd sd ts fs tr on rp lt ru lg lp) H → va_S (fun _ => False) s.heap H locs → lv_has ls 5 [(4, .int (nI i2)), (3, .int (nI (nxS (lkN ts fs) ru first st i2))), (0, .ref (ad 0)), (1, .int (nI first)), (2, .int (nI st))] → W p l e rm_X0_nextState s m args below meth c H locs 0 0 Q (F0 m 5 ls []) := by
    intro d3
    induction d3 with
    | zero =>
      intro i2 hi_i2 H locs ls hP hS hl
      obtain rfl : i2 = 6 := by omega
      refine lv_iload hx hb dX0_nextState_5 (lv_at hl 0 rfl) ?_
      refine lv_bipush (v := nI 6) hx hb dX0_nextState_7 (by decide) ?_
      refine cT_ge (tgt := 50) hx hb dX0_nextState_9 (by decide) (nI_le (by omega) (by omega)) ?_
      refine lv_iload_n hx hb dX0_nextState_50 rfl (lv_at hl 1 rfl) ?_
      exact kret _ _ _ _ _ (rfl) hS dX0_nextState_51
    | succ d3 ih_i2 =>
      intro i2 hi_i2 H locs ls hP hS hl
      refine lv_iload hx hb dX0_nextState_5 (lv_at hl 0 rfl) ?_
      refine lv_bipush (v := nI 6) hx hb dX0_nextState_7 (by decide) ?_
      refine cF_ge (tgt := 50) hx hb dX0_nextState_9 (by decide) (nI_ge (by omega) (by omega)) ?_
      refine lv_aload_n hx hb dX0_nextState_12 rfl (lv_at hl 2 rfl) ?_
      refine va_get (D := D) (ci := 0) (v := .ref (ad 8)) (C := RX0) (T := TX0) (N := 12) hx hb hts hin0 hown hK hP 0 rfl rfl 9 (by decide) (hts (.fieldLink RX0 40 "RumourReasoner" "rules" "[I") (by decide +kernel)) (fun _ h9 => h9) rfl dX0_nextState_13 ?_
      refine lv_iload hx hb dX0_nextState_16 (lv_at hl 0 rfl) ?_
      refine ld_ni hx hb hK hP 8 0 rfl rfl (j := i2) (by omega) (by decide) dX0_nextState_18 ?_
      refine lv_iconst (v := (-1)) hx hb dX0_nextState_19 (by decide) ?_
      refine lv_icmp_eq (tgt := 44) hx hb dX0_nextState_20 (by decide) (fun c_4 => ?_) (fun c_4 => ?_)
      · have e_20 : ru i2 = none := (rI_none (fun f hf => Nat.lt_of_lt_of_le (hO.2.2.2.2.2 _ f (by omega) hf) (Nat.le_trans hO.1 (by decide)))).mp c_4
        refine lv_iinc (v := nI (i2 + 1)) (lv' := [(4, .int (nI (i2 + 1))), (3, .int (nI (nxS (lkN ts fs) ru first st i2))), (0, .ref (ad 0)), (1, .int (nI first)), (2, .int (nI st))]) hx hb dX0_nextState_44 hl (k := 0) rfl (iinc1 _) (by decide) rfl (fun ls hl => ?_)
        refine lv_goto (tgt := 5) hx hb dX0_nextState_47 (by decide) ?_
        exact ih_i2 (i2 + 1) (by omega) H locs ls hP hS (by have h9 := lv_sub hl [0, 1, 2, 3, 4] rfl; rw [show nxS (lkN ts fs) ru first st (i2 + 1) = nxS (lkN ts fs) ru first st i2 by show (match ru i2 with | none => _ | some f => _) = _; rw [e_20]]; exact h9)
      · obtain ⟨f9, e_20⟩ := rI_some c_4
        have hf9 : f9 < 40 := Nat.lt_of_lt_of_le (hO.2.2.2.2.2 i2 f9 (by omega) e_20) hO.1
        refine lv_iload_n hx hb dX0_nextState_23 rfl (lv_at hl 1 rfl) ?_
        refine lv_aload_n hx hb dX0_nextState_24 rfl (lv_at hl 2 rfl) ?_
        refine lv_aload_n hx hb dX0_nextState_25 rfl (lv_at hl 2 rfl) ?_
        refine va_get (D := D) (ci := 0) (v := .ref (ad 8)) (C := RX0) (T := TX0) (N := 12) hx hb hts hin0 hown hK hP 0 rfl rfl 9 (by decide) (hts (.fieldLink RX0 40 "RumourReasoner" "rules" "[I") (by decide +kernel)) (fun _ h9 => h9) rfl dX0_nextState_26 ?_
        refine lv_iload hx hb dX0_nextState_29 (lv_at hl 0 rfl) ?_
        refine ld_ni hx hb hK hP 8 0 rfl rfl (j := i2) (by omega) (by decide) dX0_nextState_31 ?_
        refine tc_int (y := nI f9) (by rw [e_20]; rfl) ?_
        refine lv_iload_n hx hb dX0_nextState_32 rfl (lv_at hl 4 rfl) ?_
        refine puI_V (own := RX0) (As := [.int (nI f9), .int (nI st)]) (rest := [.int (nI (nxS (lkN ts fs) ru first st i2))]) (C := RX0) (ci := 0) (q0 := 0) ⟨hx, hb, hml, hown, hts⟩ (c_X0_lookUp l D ad cI cZ cJ n kd sd ts fs tr on rp lt ru lg lp f9 st (by omega) (by omega)) gX0_nextState_X0_lookUp rfl ⟨rfl, rfl⟩ 2 rfl (by decide +kernel) ⟨Nat.le_of_ble_eq_true rfl, Nat.le_of_ble_eq_true rfl⟩ hP hK rfl rfl rfl hS hl.1 rfl (Nat.le_of_ble_eq_true rfl) dX0_nextState_33 ⟨Nat.zero_le _, Nat.zero_le _⟩ (fun H locs hk1 hS => ?_)
        replace hP := keptP hP hk1
        refine lv_iload hx hb dX0_nextState_36 (lv_at hl 0 rfl) ?_
        refine puI_S (own := RX0) (As := [.int (nI i2)]) (rest := [.int (nI (lkN ts fs f9 st)), .int (nI (nxS (lkN ts fs) ru first st i2))]) ⟨hx, hb, hml, hown, hts⟩ (c_X0_placeOf l D i2 (by omega)) gX0_nextState_X0_placeOf rfl ⟨rfl, rfl⟩ 1 rfl (by decide +kernel) ⟨Nat.le_of_ble_eq_true rfl, Nat.le_of_ble_eq_true rfl⟩ nilP (hK.sub (tys' := []) [] rfl) hS hl.1 rfl (Nat.le_of_ble_eq_true rfl) dX0_nextState_38 ⟨Nat.zero_le _, Nat.zero_le _⟩ (fun H locs hk1 hS => ?_)
        replace hP := keptP hP hk1
        refine lv_ishl hx hb dX0_nextState_41 ?_
        refine tc_int (y := nI (lkN ts fs f9 st * 2 ^ (2 * (5 - i2)))) (shlP (lkN_lt _ _ _ _)) ?_
        refine lv_ior hx hb dX0_nextState_42 ?_
        refine tc_int (y := nI (nxS (lkN ts fs) ru first st i2 ||| (lkN ts fs f9 st * 2 ^ (2 * (5 - i2))))) (fa_or _ _) ?_
        refine lv_istore_n (lv' := [(3, .int (nI (nxS (lkN ts fs) ru first st i2 ||| (lkN ts fs f9 st * 2 ^ (2 * (5 - i2)))))), (4, .int (nI i2)), (0, .ref (ad 0)), (1, .int (nI first)), (2, .int (nI st))]) hx hb dX0_nextState_43 rfl hl (by decide) rfl (fun ls hl => ?_)
        refine lv_iinc (v := nI (i2 + 1)) (lv' := [(4, .int (nI (i2 + 1))), (3, .int (nI (nxS (lkN ts fs) ru first st i2 ||| (lkN ts fs f9 st * 2 ^ (2 * (5 - i2)))))), (0, .ref (ad 0)), (1, .int (nI first)), (2, .int (nI st))]) hx hb dX0_nextState_44 hl (k := 1) rfl (iinc1 _) (by decide) rfl (fun ls hl => ?_)
        refine lv_goto (tgt := 5) hx hb dX0_nextState_47 (by decide) ?_
        exact ih_i2 (i2 + 1) (by omega) H locs ls hP hS (by have h9 := lv_sub hl [0, 1, 2, 3, 4] rfl; rw [show nxS (lkN ts fs) ru first st (i2 + 1) = nxS (lkN ts fs) ru first st i2 ||| (lkN ts fs f9 st * 2 ^ (2 * (5 - i2))) by show (match ru i2 with | none => _ | some f => _) = _; rw [e_20]]; exact h9)
  exact key1 (6) 0 (by omega) _ _ ls hP hS (lv_sub hl [0, 1, 2, 3, 4] rfl)

def rm_X0_settledState : Room := { frames := 3, cells := 0, slots := 0, locals := 70 }
set_option maxHeartbeats 4000000 in
set_option maxRecDepth 100000 in
theorem c_X0_settledState (hO : OKC n tr rp lt lg ru) (set : Nat) (hset : set < 64) : PuI l yX0_settledState wsX0_settledState rm_X0_settledState D vwCl (wC ad cI cZ cJ n kd sd ts fs tr on rp lt ru lg lp) (tyC cI cZ cJ) [.ref (ad 0), .int (nI set)] (nI (itS (lkN ts fs) ru (gsS rp set 6) 12)) := by
  refine PuI.of (cc := cX0_settledState) (maxL := 6) (by decide) rfl (Nat.le_of_ble_eq_true rfl) (vp_nar_int _) ?_
  intro p e s m args below meth c Q ls hx hb hml hown hts hP hK kret hl
  have hown : s.vm.findClass RX0 = some m.cls := hown
  have hl : lv_has ls 6 [(0, .ref (ad 0)), (1, .int (nI set))] := hl
  have hS : va_S (fun _ => False) s.heap s.heap [] := va_S.rf
  have hg0 : gsS rp set 6 < 4096 := gsS_lt hO.2.2.1 set 6 (Nat.le_refl 6)
  have hit : ∀ r, itS (lkN ts fs) ru (gsS rp set 6) r < 4096 := itS_lt (lkN_lt ts fs) ru hg0
  refine lv_aload_n hx hb dX0_settledState_0 rfl (lv_at hl 0 rfl) ?_
  refine lv_iload_n hx hb dX0_settledState_1 rfl (lv_at hl 1 rfl) ?_
  refine puI_V (own := RX0) (As := [.int (nI set)]) (rest := []) (C := RX0) (ci := 0) (q0 := 0) ⟨hx, hb, hml, hown, hts⟩ (c_X0_givenState l D ad cI cZ cJ n kd sd ts fs tr on rp lt ru lg lp hO set (by omega)) gX0_settledState_X0_givenState rfl ⟨rfl, rfl⟩ 1 rfl (by decide +kernel) ⟨Nat.le_of_ble_eq_true rfl, Nat.le_of_ble_eq_true rfl⟩ hP hK rfl rfl rfl hS hl.1 rfl (Nat.le_of_ble_eq_true rfl) dX0_settledState_2 ⟨Nat.zero_le _, Nat.zero_le _⟩ (fun H locs hk1 hS => ?_)
  replace hP := keptP hP hk1
  refine lv_istore_n (lv' := [(2, .int (nI (gsS rp set 6))), (0, .ref (ad 0)), (1, .int (nI set))]) hx hb dX0_settledState_5 rfl hl (by decide) rfl (fun ls hl => ?_)
  refine lv_iload_n hx hb dX0_settledState_6 rfl (lv_at hl 0 rfl) ?_
  refine lv_istore_n (lv' := [(3, .int (nI (gsS rp set 6))), (2, .int (nI (gsS rp set 6))), (0, .ref (ad 0)), (1, .int (nI set))]) hx hb dX0_settledState_7 rfl hl (by decide) rfl (fun ls hl => ?_)
  refine lv_iconst (v := nI 0) hx hb dX0_settledState_8 (by decide) ?_
  refine lv_istore (lv' := [(4, .int (nI 0)), (3, .int (nI (gsS rp set 6))), (2, .int (nI (gsS rp set 6))), (0, .ref (ad 0)), (1, .int (nI set))]) hx hb dX0_settledState_9 hl (by decide) rfl (fun ls hl => ?_)
  have key1 : ∀ (d3 i2 : Nat), i2 + d3 = 12 → ∀ (H : Heap) (locs : List Loc) (ls : Array Slot), va_P D vwCl (wC ad cI cZ cJ n kd sd ts fs tr on rp lt ru lg lp) H → va_S (fun _ => False) s.heap H locs → lv_has ls 6 [(4, .int (nI i2)), (3, .int (nI (itS (lkN ts fs) ru (gsS rp set 6) i2))), (2, .int (nI (gsS rp set 6))), (0, .ref (ad 0)), (1, .int (nI set))] → W p l e rm_X0_settledState s m args below meth c H locs 0 0 Q (F0 m 11 ls []) := by
    intro d3
    induction d3 with
    | zero =>
      intro i2 hi_i2 H locs ls hP hS hl
      obtain rfl : i2 = 12 := by omega
      refine lv_iload hx hb dX0_settledState_11 (lv_at hl 0 rfl) ?_
      refine lv_bipush (v := nI 12) hx hb dX0_settledState_13 (by decide) ?_
      refine cT_ge (tgt := 43) hx hb dX0_settledState_15 (by decide) (nI_le (by omega) (by omega)) ?_
      refine lv_iload_n hx hb dX0_settledState_43 rfl (lv_at hl 1 rfl) ?_
      exact kret _ _ _ _ _ (rfl) hS dX0_settledState_44
    | succ d3 ih_i2 =>
      intro i2 hi_i2 H locs ls hP hS hl
      refine lv_iload hx hb dX0_settledState_11 (lv_at hl 0 rfl) ?_
      refine lv_bipush (v := nI 12) hx hb dX0_settledState_13 (by decide) ?_
      refine cF_ge (tgt := 43) hx hb dX0_settledState_15 (by decide) (nI_ge (by omega) (by omega)) ?_
      refine lv_aload_n hx hb dX0_settledState_18 rfl (lv_at hl 3 rfl) ?_
      refine lv_iload_n hx hb dX0_settledState_19 rfl (lv_at hl 2 rfl) ?_
      refine lv_iload_n hx hb dX0_settledState_20 rfl (lv_at hl 1 rfl) ?_
      refine puI_V (own := RX0) (As := [.int (nI (gsS rp set 6)), .int (nI (itS (lkN ts fs) ru (gsS rp set 6) i2))]) (rest := []) (C := RX0) (ci := 0) (q0 := 0) ⟨hx, hb, hml, hown, hts⟩ (c_X0_nextState l D ad cI cZ cJ n kd sd ts fs tr on rp lt ru lg lp hO (gsS rp set 6) (itS (lkN ts fs) ru (gsS rp set 6) i2) (hit _)) gX0_settledState_X0_nextState rfl ⟨rfl, rfl⟩ 2 rfl (by decide +kernel) ⟨Nat.le_of_ble_eq_true rfl, Nat.le_of_ble_eq_true rfl⟩ hP hK rfl rfl rfl hS hl.1 rfl (Nat.le_of_ble_eq_true rfl) dX0_settledState_21 ⟨Nat.zero_le _, Nat.zero_le _⟩ (fun H locs hk1 hS => ?_)
      replace hP := keptP hP hk1
      refine lv_istore (lv' := [(5, .int (nI (nxS (lkN ts fs) ru (gsS rp set 6) (itS (lkN ts fs) ru (gsS rp set 6) i2) 6))), (4, .int (nI i2)), (3, .int (nI (itS (lkN ts fs) ru (gsS rp set 6) i2))), (2, .int (nI (gsS rp set 6))), (0, .ref (ad 0)), (1, .int (nI set))]) hx hb dX0_settledState_24 hl (by decide) rfl (fun ls hl => ?_)
      refine lv_iload hx hb dX0_settledState_26 (lv_at hl 0 rfl) ?_
      refine lv_iload_n hx hb dX0_settledState_28 rfl (lv_at hl 2 rfl) ?_
      refine lv_icmp_ne (tgt := 34) hx hb dX0_settledState_29 (by decide) (fun c_4 => ?_) (fun c_4 => ?_)
      · refine lv_iload hx hb dX0_settledState_34 (lv_at hl 0 rfl) ?_
        refine lv_istore_n (lv' := [(3, .int (nI (nxS (lkN ts fs) ru (gsS rp set 6) (itS (lkN ts fs) ru (gsS rp set 6) i2) 6))), (5, .int (nI (nxS (lkN ts fs) ru (gsS rp set 6) (itS (lkN ts fs) ru (gsS rp set 6) i2) 6))), (4, .int (nI i2)), (2, .int (nI (gsS rp set 6))), (0, .ref (ad 0)), (1, .int (nI set))]) hx hb dX0_settledState_36 rfl hl (by decide) rfl (fun ls hl => ?_)
        refine lv_iinc (v := nI (i2 + 1)) (lv' := [(4, .int (nI (i2 + 1))), (3, .int (nI (nxS (lkN ts fs) ru (gsS rp set 6) (itS (lkN ts fs) ru (gsS rp set 6) i2) 6))), (5, .int (nI (nxS (lkN ts fs) ru (gsS rp set 6) (itS (lkN ts fs) ru (gsS rp set 6) i2) 6))), (2, .int (nI (gsS rp set 6))), (0, .ref (ad 0)), (1, .int (nI set))]) hx hb dX0_settledState_37 hl (k := 2) rfl (iinc1 _) (by decide) rfl (fun ls hl => ?_)
        refine lv_goto (tgt := 11) hx hb dX0_settledState_40 (by decide) ?_
        exact ih_i2 (i2 + 1) (by omega) H locs ls hP hS (lv_sub hl [0, 1, 3, 4, 5] rfl)
      · have e_29 : itS (lkN ts fs) ru (gsS rp set 6) (i2 + 1) = itS (lkN ts fs) ru (gsS rp set 6) i2 := (nI_eq (Nat.lt_trans (hit _) (by decide)) (Nat.lt_trans (hit _) (by decide))).mp c_4
        refine lv_iload_n hx hb dX0_settledState_32 rfl (lv_at hl 2 rfl) ?_
        exact kret _ _ _ _ _ (by rw [itS_at e_29 (k := 12) (by omega)]) hS dX0_settledState_33
  exact key1 (12) 0 (by omega) _ _ ls hP hS (lv_sub hl [0, 1, 2, 3, 4] rfl)

theorem hsS_lt (tr : Nat → Nat) (on : Nat → Bool) (lt : Nat) : ∀ k, k ≤ 6 → hsS tr on lt k < 64
  | 0, _ => by simp [hsS]
  | k + 1, hk => by
    have ih := hsS_lt tr on lt k (by omega)
    unfold hsS
    split
    · exact Nat.or_lt_two_pow (n := 6) ih (Nat.pow_lt_pow_right (by decide) (by omega))
    · exact ih
def rm_X0_settledNow : Room := { frames := 4, cells := 0, slots := 0, locals := 95 }
set_option maxHeartbeats 4000000 in
set_option maxRecDepth 100000 in
theorem c_X0_settledNow (hO : OKC n tr rp lt lg ru) : PuI l yX0_settledNow wsX0_settledNow rm_X0_settledNow D vwCl (wC ad cI cZ cJ n kd sd ts fs tr on rp lt ru lg lp) (tyC cI cZ cJ) [.ref (ad 0)] (nI (itS (lkN ts fs) ru (gsS rp (hsS tr on lt 6) 6) 12)) := by
  refine PuI.of (cc := cX0_settledNow) (maxL := 1) (by decide) rfl (Nat.le_of_ble_eq_true rfl) (vp_nar_int _) ?_
  intro p e s m args below meth c Q ls hx hb hml hown hts hP hK kret hl
  have hown : s.vm.findClass RX0 = some m.cls := hown
  have hl : lv_has ls 1 [(0, .ref (ad 0))] := hl
  have hS : va_S (fun _ => False) s.heap s.heap [] := va_S.rf
  refine lv_aload_n hx hb dX0_settledNow_0 rfl (lv_at hl 0 rfl) ?_
  refine lv_aload_n hx hb dX0_settledNow_1 rfl (lv_at hl 0 rfl) ?_
  refine puI_V (own := RX0) (As := []) (rest := [.ref (ad 0)]) (C := RX0) (ci := 0) (q0 := 0) ⟨hx, hb, hml, hown, hts⟩ (c_X0_heard l D ad cI cZ cJ n kd sd ts fs tr on rp lt ru lg lp hO) gX0_settledNow_X0_heard rfl ⟨rfl, rfl⟩ 0 rfl (by decide +kernel) ⟨Nat.le_of_ble_eq_true rfl, Nat.le_of_ble_eq_true rfl⟩ hP hK rfl rfl rfl hS hl.1 rfl (Nat.le_of_ble_eq_true rfl) dX0_settledNow_2 ⟨Nat.zero_le _, Nat.zero_le _⟩ (fun H locs hk1 hS => ?_)
  replace hP := keptP hP hk1
  refine puI_V (own := RX0) (As := [.int (nI (hsS tr on lt 6))]) (rest := []) (C := RX0) (ci := 0) (q0 := 0) ⟨hx, hb, hml, hown, hts⟩ (c_X0_settledState l D ad cI cZ cJ n kd sd ts fs tr on rp lt ru lg lp hO (hsS tr on lt 6) (hsS_lt tr on lt 6 (Nat.le_refl 6))) gX0_settledNow_X0_settledState rfl ⟨rfl, rfl⟩ 1 rfl (by decide +kernel) ⟨Nat.le_of_ble_eq_true rfl, Nat.le_of_ble_eq_true rfl⟩ hP hK rfl rfl rfl hS hl.1 rfl (Nat.le_of_ble_eq_true rfl) dX0_settledNow_5 ⟨Nat.zero_le _, Nat.zero_le _⟩ (fun H locs hk1 hS => ?_)
  replace hP := keptP hP hk1
  exact kret _ _ _ _ _ (rfl) hS dX0_settledNow_8

end
