section
variable (l : Launch) (D : va_G) (ad : Nat → Nat) (cI cZ cJ : ClassId) (n : Nat) (kd : Nat → Nat) (sd : Nat → Bool) (ts fs : Nat → Int64) (tr : Nat → Nat) (on : Nat → Bool) (rp : Nat → Nat) (lt : Nat) (ru : Nat → Option Nat) (lg : Nat) (lp : Int64)
theorem hin_X0_setRule : ∀ w ∈ wsX00, w ∈ wsX0_setRule := by first | exact fun _ h => List.mem_cons_of_mem _ (List.mem_append_right _ h) | exact fun _ h => List.mem_cons_of_mem _ (List.mem_append_left _ (List.mem_append_right _ h)) | exact fun _ h => List.mem_cons_of_mem _ (List.mem_append_left _ (List.mem_append_left _ (List.mem_append_right _ h))) | exact fun _ h => List.mem_cons_of_mem _ (List.mem_append_left _ (List.mem_append_left _ (List.mem_append_left _ (List.mem_append_right _ h)))) | decide +kernel
def rm_X0_setRule : Room := { frames := 1, cells := 0, slots := 0, locals := 21 }
set_option maxHeartbeats 4000000 in
set_option maxRecDepth 100000 in
theorem c_X0_setRule_0 (a : Nat) (ha : a < 6) : MuI l yX0_setRule wsX0_setRule rm_X0_setRule D vwCl (wC ad cI cZ cJ n kd sd ts fs tr on rp lt ru lg lp) (fun _ => wC ad cI cZ cJ n kd sd ts fs tr on rp lt (va_up ru a none) lg lp) (tyC cI cZ cJ) [.ref (ad 0), .int (nI a), .int (rI none)] (rI (ru a)) := by
  refine MuI.of (cc := cX0_setRule) (maxL := 4) (by decide) rfl (Nat.le_of_ble_eq_true rfl) (vp_nar_int _) ?_
  intro A p e s m args below meth c Q ls hx hb hml hown hts hP hK hD kret hl
  have hown : s.vm.findClass RX0 = some m.cls := hown
  have hl : lv_has ls 4 [(0, .ref (ad 0)), (1, .int (nI a)), (2, .int (rI none))] := hl
  have hS : va_S A s.heap s.heap [] := va_S.rf
  have hin0 : ∀ w ∈ u_ws RX0 TX0 12, w ∈ wsX0_setRule := hin_X0_setRule
  refine lv_iload_n hx hb dX0_setRule_0 rfl (lv_at hl 1 rfl) ?_
  refine puV_S (own := RX0) (As := [.int (nI a)]) (rest := []) ⟨hx, hb, hml, hown, hts⟩ (c_X0_requireAtom l D a (by omega)) gX0_setRule_X0_requireAtom rfl ⟨rfl, rfl⟩ 1 rfl (by decide +kernel) ⟨Nat.le_of_ble_eq_true rfl, Nat.le_of_ble_eq_true rfl⟩ nilP (hK.sub (tys' := []) [] rfl) hS hl.1 rfl (Nat.le_of_ble_eq_true rfl) dX0_setRule_1 ⟨Nat.zero_le _, Nat.zero_le _⟩ (fun H locs hk1 hS => ?_)
  replace hP := keptP hP hk1
  refine lv_iload_n hx hb dX0_setRule_4 rfl (lv_at hl 2 rfl) ?_
  refine lv_iconst (v := (-1)) hx hb dX0_setRule_5 (by decide) ?_
  refine cT_eq (tgt := 19) hx hb dX0_setRule_6 (by decide) (rfl) ?_
  refine lv_aload_n hx hb dX0_setRule_19 rfl (lv_at hl 0 rfl) ?_
  refine va_get (D := D) (ci := 0) (v := .ref (ad 8)) (C := RX0) (T := TX0) (N := 12) hx hb hts hin0 hown hK hP 0 rfl rfl 9 (by decide) (hts (.fieldLink RX0 40 "RumourReasoner" "rules" "[I") (by decide +kernel)) (fun _ h9 => h9) rfl dX0_setRule_20 ?_
  refine lv_iload_n hx hb dX0_setRule_23 rfl (lv_at hl 1 rfl) ?_
  refine ld_ni hx hb hK hP 8 0 rfl rfl (j := a) (by omega) (by decide) dX0_setRule_24 ?_
  refine lv_istore_n (lv' := [(3, .int (rI (ru a))), (0, .ref (ad 0)), (1, .int (nI a)), (2, .int (rI none))]) hx hb dX0_setRule_25 rfl hl (by decide) rfl (fun ls hl => ?_)
  refine lv_aload_n hx hb dX0_setRule_26 rfl (lv_at hl 1 rfl) ?_
  refine va_get (D := D) (ci := 0) (v := .ref (ad 8)) (C := RX0) (T := TX0) (N := 12) hx hb hts hin0 hown hK hP 0 rfl rfl 9 (by decide) (hts (.fieldLink RX0 40 "RumourReasoner" "rules" "[I") (by decide +kernel)) (fun _ h9 => h9) rfl dX0_setRule_27 ?_
  refine lv_iload_n hx hb dX0_setRule_30 rfl (lv_at hl 2 rfl) ?_
  refine lv_iload_n hx hb dX0_setRule_31 rfl (lv_at hl 3 rfl) ?_
  refine st_ni hx hb hK hP hD hS 8 0 rfl rfl (j := a) (by omega) (by decide) dX0_setRule_32 (fun H locs hP hD hS => ?_)
  replace hP : va_P D vwCl (wC ad cI cZ cJ n kd sd ts fs tr on rp lt (va_up ru a none) lg lp) H := by rw [upR] at hP; exact hP
  replace hD : va_D A (wC ad cI cZ cJ n kd sd ts fs tr on rp lt (va_up ru a none) lg lp) := sameD2 hD rfl
  refine lv_iload_n hx hb dX0_setRule_33 rfl (lv_at hl 0 rfl) ?_
  exact kret _ (fun _ => 0) _ _ _ _ (rfl) hP hS dX0_setRule_34

set_option maxHeartbeats 4000000 in
set_option maxRecDepth 100000 in
theorem c_X0_setRule_1 (hO : OKC n tr rp lt lg ru) (a f : Nat) (ha : a < 6) (hf : f < n) (hs : sd f = true) : MuI l yX0_setRule wsX0_setRule rm_X0_setRule D vwCl (wC ad cI cZ cJ n kd sd ts fs tr on rp lt ru lg lp) (fun _ => wC ad cI cZ cJ n kd sd ts fs tr on rp lt (va_up ru a (some f)) lg lp) (tyC cI cZ cJ) [.ref (ad 0), .int (nI a), .int (rI (some f))] (rI (ru a)) := by
  refine MuI.of (cc := cX0_setRule) (maxL := 4) (by decide) rfl (Nat.le_of_ble_eq_true rfl) (vp_nar_int _) ?_
  intro A p e s m args below meth c Q ls hx hb hml hown hts hP hK hD kret hl
  have hown : s.vm.findClass RX0 = some m.cls := hown
  have hl : lv_has ls 4 [(0, .ref (ad 0)), (1, .int (nI a)), (2, .int (rI (some f)))] := hl
  have hS : va_S A s.heap s.heap [] := va_S.rf
  have hin0 : ∀ w ∈ u_ws RX0 TX0 12, w ∈ wsX0_setRule := hin_X0_setRule
  have hn40 := hO.1
  refine lv_iload_n hx hb dX0_setRule_0 rfl (lv_at hl 1 rfl) ?_
  refine puV_S (own := RX0) (As := [.int (nI a)]) (rest := []) ⟨hx, hb, hml, hown, hts⟩ (c_X0_requireAtom l D a (by omega)) gX0_setRule_X0_requireAtom rfl ⟨rfl, rfl⟩ 1 rfl (by decide +kernel) ⟨Nat.le_of_ble_eq_true rfl, Nat.le_of_ble_eq_true rfl⟩ nilP (hK.sub (tys' := []) [] rfl) hS hl.1 rfl (Nat.le_of_ble_eq_true rfl) dX0_setRule_1 ⟨Nat.zero_le _, Nat.zero_le _⟩ (fun H locs hk1 hS => ?_)
  replace hP := keptP hP hk1
  refine lv_iload_n hx hb dX0_setRule_4 rfl (lv_at hl 2 rfl) ?_
  refine lv_iconst (v := (-1)) hx hb dX0_setRule_5 (by decide) ?_
  refine cF_eq (tgt := 19) hx hb dX0_setRule_6 (by decide) (rI_ne (by omega)) ?_
  refine lv_aload_n hx hb dX0_setRule_9 rfl (lv_at hl 0 rfl) ?_
  refine lv_iload_n hx hb dX0_setRule_10 rfl (lv_at hl 2 rfl) ?_
  refine tc_int (y := nI f) (rfl) ?_
  refine puV_V (own := RX0) (As := [.int (nI f)]) (rest := []) (C := RX0) (ci := 0) (q0 := 0) ⟨hx, hb, hml, hown, hts⟩ (c_X0_requireFormula l D ad cI cZ cJ n kd sd ts fs tr on rp lt ru lg lp hO f (by omega)) gX0_setRule_X0_requireFormula rfl ⟨rfl, rfl⟩ 1 rfl (by decide +kernel) ⟨Nat.le_of_ble_eq_true rfl, Nat.le_of_ble_eq_true rfl⟩ hP hK rfl rfl rfl hS hl.1 rfl (Nat.le_of_ble_eq_true rfl) dX0_setRule_11 ⟨Nat.zero_le _, Nat.zero_le _⟩ (fun H locs hk1 hS => ?_)
  replace hP := keptP hP hk1
  refine lv_aload_n hx hb dX0_setRule_14 rfl (lv_at hl 0 rfl) ?_
  refine lv_iload_n hx hb dX0_setRule_15 rfl (lv_at hl 2 rfl) ?_
  refine tc_int (y := nI f) (rfl) ?_
  refine puV_V (own := RX0) (As := [.int (nI f)]) (rest := []) (C := RX0) (ci := 0) (q0 := 0) ⟨hx, hb, hml, hown, hts⟩ (c_X0_requireSteady l D ad cI cZ cJ n kd sd ts fs tr on rp lt ru lg lp f (by omega) hs) gX0_setRule_X0_requireSteady rfl ⟨rfl, rfl⟩ 1 rfl (by decide +kernel) ⟨Nat.le_of_ble_eq_true rfl, Nat.le_of_ble_eq_true rfl⟩ hP hK rfl rfl rfl hS hl.1 rfl (Nat.le_of_ble_eq_true rfl) dX0_setRule_16 ⟨Nat.zero_le _, Nat.zero_le _⟩ (fun H locs hk1 hS => ?_)
  replace hP := keptP hP hk1
  refine lv_aload_n hx hb dX0_setRule_19 rfl (lv_at hl 0 rfl) ?_
  refine va_get (D := D) (ci := 0) (v := .ref (ad 8)) (C := RX0) (T := TX0) (N := 12) hx hb hts hin0 hown hK hP 0 rfl rfl 9 (by decide) (hts (.fieldLink RX0 40 "RumourReasoner" "rules" "[I") (by decide +kernel)) (fun _ h9 => h9) rfl dX0_setRule_20 ?_
  refine lv_iload_n hx hb dX0_setRule_23 rfl (lv_at hl 1 rfl) ?_
  refine ld_ni hx hb hK hP 8 0 rfl rfl (j := a) (by omega) (by decide) dX0_setRule_24 ?_
  refine lv_istore_n (lv' := [(3, .int (rI (ru a))), (0, .ref (ad 0)), (1, .int (nI a)), (2, .int (rI (some f)))]) hx hb dX0_setRule_25 rfl hl (by decide) rfl (fun ls hl => ?_)
  refine lv_aload_n hx hb dX0_setRule_26 rfl (lv_at hl 1 rfl) ?_
  refine va_get (D := D) (ci := 0) (v := .ref (ad 8)) (C := RX0) (T := TX0) (N := 12) hx hb hts hin0 hown hK hP 0 rfl rfl 9 (by decide) (hts (.fieldLink RX0 40 "RumourReasoner" "rules" "[I") (by decide +kernel)) (fun _ h9 => h9) rfl dX0_setRule_27 ?_
  refine lv_iload_n hx hb dX0_setRule_30 rfl (lv_at hl 2 rfl) ?_
  refine lv_iload_n hx hb dX0_setRule_31 rfl (lv_at hl 3 rfl) ?_
  refine st_ni hx hb hK hP hD hS 8 0 rfl rfl (j := a) (by omega) (by decide) dX0_setRule_32 (fun H locs hP hD hS => ?_)
  replace hP : va_P D vwCl (wC ad cI cZ cJ n kd sd ts fs tr on rp lt (va_up ru a (some f)) lg lp) H := by rw [upR] at hP; exact hP
  replace hD : va_D A (wC ad cI cZ cJ n kd sd ts fs tr on rp lt (va_up ru a (some f)) lg lp) := sameD2 hD rfl
  refine lv_iload_n hx hb dX0_setRule_33 rfl (lv_at hl 0 rfl) ?_
  exact kret _ (fun _ => 0) _ _ _ _ (rfl) hP hS dX0_setRule_34

theorem hin_X0_setLogic : ∀ w ∈ wsX00, w ∈ wsX0_setLogic := by first | exact fun _ h => List.mem_cons_of_mem _ (List.mem_append_right _ h) | exact fun _ h => List.mem_cons_of_mem _ (List.mem_append_left _ (List.mem_append_right _ h)) | exact fun _ h => List.mem_cons_of_mem _ (List.mem_append_left _ (List.mem_append_left _ (List.mem_append_right _ h))) | exact fun _ h => List.mem_cons_of_mem _ (List.mem_append_left _ (List.mem_append_left _ (List.mem_append_left _ (List.mem_append_right _ h)))) | decide +kernel
def rm_X0_setLogic : Room := { frames := 1, cells := 0, slots := 0, locals := 26 }
set_option maxHeartbeats 4000000 in
set_option maxRecDepth 100000 in
theorem c_X0_setLogic (g : Nat) (hg : 1 ≤ g ∧ g ≤ 15) : MuI l yX0_setLogic wsX0_setLogic rm_X0_setLogic D vwCl (wC ad cI cZ cJ n kd sd ts fs tr on rp lt ru lg lp) (fun _ => wC ad cI cZ cJ n kd sd ts fs tr on rp lt ru g (tpL g 64)) (tyC cI cZ cJ) [.ref (ad 0), .int (nI g)] (nI lg) := by
  refine MuI.of (cc := cX0_setLogic) (maxL := 3) (by decide) rfl (Nat.le_of_ble_eq_true rfl) (vp_nar_int _) ?_
  intro A p e s m args below meth c Q ls hx hb hml hown hts hP hK hD kret hl
  have hown : s.vm.findClass RX0 = some m.cls := hown
  have hl : lv_has ls 3 [(0, .ref (ad 0)), (1, .int (nI g))] := hl
  have hS : va_S A s.heap s.heap [] := va_S.rf
  have hin0 : ∀ w ∈ u_ws RX0 TX0 12, w ∈ wsX0_setLogic := hin_X0_setLogic
  refine lv_iload_n hx hb dX0_setLogic_0 rfl (lv_at hl 1 rfl) ?_
  refine lv_iconst (v := nI 1) hx hb dX0_setLogic_1 (by decide) ?_
  refine cF_lt (tgt := 11) hx hb dX0_setLogic_2 (by decide) (nI_nlt (by omega) (by omega)) ?_
  refine lv_iload_n hx hb dX0_setLogic_5 rfl (lv_at hl 1 rfl) ?_
  refine lv_bipush (v := nI 15) hx hb dX0_setLogic_6 (by decide) ?_
  refine cT_le (tgt := 21) hx hb dX0_setLogic_8 (by decide) (nI_le (by omega) (by omega)) ?_
  refine lv_aload_n hx hb dX0_setLogic_21 rfl (lv_at hl 0 rfl) ?_
  refine va_get (D := D) (ci := 0) (v := .int (nI lg)) (C := RX0) (T := TX0) (N := 12) hx hb hts hin0 hown hK hP 0 rfl rfl 10 (by decide) (hts (.fieldLink RX0 43 "RumourReasoner" "logic" "I") (by decide +kernel)) (fun _ h9 => h9) rfl dX0_setLogic_22 ?_
  refine lv_istore_n (lv' := [(2, .int (nI lg)), (0, .ref (ad 0)), (1, .int (nI g))]) hx hb dX0_setLogic_25 rfl hl (by decide) rfl (fun ls hl => ?_)
  refine lv_aload_n hx hb dX0_setLogic_26 rfl (lv_at hl 1 rfl) ?_
  refine lv_iload_n hx hb dX0_setLogic_27 rfl (lv_at hl 2 rfl) ?_
  refine va_put (D := D) (ci := 0) (v := .int (nI g)) (ty := .int) (C := RX0) (T := TX0) (N := 12) hx hb hts hin0 tyX0 tyX0_ok nmX0 hown hK hP hD hS 0 rfl rfl 10 (by decide) (hts (.fieldLink RX0 43 "RumourReasoner" "logic" "I") (by decide +kernel)) (fun _ h9 => h9) rfl (by decide +kernel) rfl rfl (Nat.le_of_ble_eq_true rfl) dX0_setLogic_28 (fun H locs hP hD hS => ?_)
  have hP : va_P D vwCl (wC ad cI cZ cJ n kd sd ts fs tr on rp lt ru g lp) H := hP
  have hD : va_D A (wC ad cI cZ cJ n kd sd ts fs tr on rp lt ru g lp) := hD
  refine lv_aload_n hx hb dX0_setLogic_31 rfl (lv_at hl 1 rfl) ?_
  refine lv_iload_n hx hb dX0_setLogic_32 rfl (lv_at hl 2 rfl) ?_
  refine puL_S (own := RX0) (As := [.int (nI g)]) (rest := [.ref (ad 0)]) ⟨hx, hb, hml, hown, hts⟩ (c_X0_triplesOf l D g (by omega)) gX0_setLogic_X0_triplesOf rfl ⟨rfl, rfl⟩ 1 rfl (by decide +kernel) ⟨Nat.le_of_ble_eq_true rfl, Nat.le_of_ble_eq_true rfl⟩ nilP (hK.sub (tys' := []) [] rfl) hS hl.1 rfl (Nat.le_of_ble_eq_true rfl) dX0_setLogic_33 ⟨Nat.zero_le _, Nat.zero_le _⟩ (fun H locs hk1 hS => ?_)
  replace hP := keptP hP hk1
  refine va_put (D := D) (ci := 0) (v := .long (tpL g 64)) (ty := .long) (C := RX0) (T := TX0) (N := 12) hx hb hts hin0 tyX0 tyX0_ok nmX0 hown hK hP hD hS 0 rfl rfl 11 (by decide) (hts (.fieldLink RX0 48 "RumourReasoner" "logicTriples" "J") (by decide +kernel)) (fun _ h9 => h9) rfl (by decide +kernel) rfl rfl (Nat.le_of_ble_eq_true rfl) dX0_setLogic_36 (fun H locs hP hD hS => ?_)
  have hP : va_P D vwCl (wC ad cI cZ cJ n kd sd ts fs tr on rp lt ru g (tpL g 64)) H := hP
  have hD : va_D A (wC ad cI cZ cJ n kd sd ts fs tr on rp lt ru g (tpL g 64)) := hD
  refine lv_iload_n hx hb dX0_setLogic_39 rfl (lv_at hl 0 rfl) ?_
  exact kret _ (fun _ => 0) _ _ _ _ (rfl) hP hS dX0_setLogic_40

end
