section
variable (l : Launch) (D : va_G) (ad : Nat → Nat) (cI cZ cJ : ClassId) (n : Nat) (kd : Nat → Nat) (sd : Nat → Bool) (ts fs : Nat → Int64) (tr : Nat → Nat) (on : Nat → Bool) (rp : Nat → Nat) (lt : Nat) (ru : Nat → Option Nat) (lg : Nat) (lp : Int64)
theorem hin_X0_addFormula : ∀ w ∈ wsX00, w ∈ wsX0_addFormula := by first | exact fun _ h => List.mem_cons_of_mem _ (List.mem_append_right _ h) | exact fun _ h => List.mem_cons_of_mem _ (List.mem_append_left _ (List.mem_append_right _ h)) | exact fun _ h => List.mem_cons_of_mem _ (List.mem_append_left _ (List.mem_append_left _ (List.mem_append_right _ h))) | exact fun _ h => List.mem_cons_of_mem _ (List.mem_append_left _ (List.mem_append_left _ (List.mem_append_left _ (List.mem_append_right _ h)))) | decide +kernel
def rm_X0_addFormula : Room := { frames := 0, cells := 0, slots := 0, locals := 0 }
set_option maxHeartbeats 4000000 in
set_option maxRecDepth 100000 in
theorem c_X0_addFormula (k : Nat) (b : Bool) (hn40 : n < 40) : MuI l yX0_addFormula wsX0_addFormula rm_X0_addFormula D vwCl (wC ad cI cZ cJ n kd sd ts fs tr on rp lt ru lg lp) (fun _ => wC ad cI cZ cJ (n + 1) (va_up kd n k) (va_up sd n b) ts fs tr on rp lt ru lg lp) (tyC cI cZ cJ) [.ref (ad 0), .int (nI k), .int (bI b)] (nI n) := by
  refine MuI.of (cc := cX0_addFormula) (maxL := 4) (by decide) rfl (Nat.le_of_ble_eq_true rfl) (vp_nar_int _) ?_
  intro A p e s m args below meth c Q ls hx hb hml hown hts hP hK hD kret hl
  have hown : s.vm.findClass RX0 = some m.cls := hown
  have hl : lv_has ls 4 [(0, .ref (ad 0)), (1, .int (nI k)), (2, .int (bI b))] := hl
  have hS : va_S A s.heap s.heap [] := va_S.rf
  have hin0 : ∀ w ∈ u_ws RX0 TX0 12, w ∈ wsX0_addFormula := hin_X0_addFormula
  refine lv_aload_n hx hb dX0_addFormula_0 rfl (lv_at hl 0 rfl) ?_
  refine va_get (D := D) (ci := 0) (v := .int (nI n)) (C := RX0) (T := TX0) (N := 12) hx hb hts hin0 hown hK hP 0 rfl rfl 0 (by decide) (hts (.fieldLink RX0 9 "RumourReasoner" "count" "I") (by decide +kernel)) (fun _ h9 => h9) rfl dX0_addFormula_1 ?_
  refine lv_istore_n (lv' := [(3, .int (nI n)), (0, .ref (ad 0)), (1, .int (nI k)), (2, .int (bI b))]) hx hb dX0_addFormula_4 rfl hl (by decide) rfl (fun ls hl => ?_)
  refine lv_aload_n hx hb dX0_addFormula_5 rfl (lv_at hl 1 rfl) ?_
  refine va_get (D := D) (ci := 0) (v := .ref (ad 1)) (C := RX0) (T := TX0) (N := 12) hx hb hts hin0 hown hK hP 0 rfl rfl 1 (by decide) (hts (.fieldLink RX0 13 "RumourReasoner" "kinds" "[I") (by decide +kernel)) (fun _ h9 => h9) rfl dX0_addFormula_6 ?_
  refine lv_iload_n hx hb dX0_addFormula_9 rfl (lv_at hl 0 rfl) ?_
  refine lv_iload_n hx hb dX0_addFormula_10 rfl (lv_at hl 2 rfl) ?_
  refine st_ni hx hb hK hP hD hS 1 0 rfl rfl (j := n) (by omega) (by decide) dX0_addFormula_11 (fun H locs hP hD hS => ?_)
  replace hP : va_P D vwCl (wC ad cI cZ cJ n (va_up kd n k) sd ts fs tr on rp lt ru lg lp) H := by rw [upN] at hP; exact hP
  replace hD : va_D A (wC ad cI cZ cJ n (va_up kd n k) sd ts fs tr on rp lt ru lg lp) := sameD rfl hD
  refine lv_aload_n hx hb dX0_addFormula_12 rfl (lv_at hl 1 rfl) ?_
  refine va_get (D := D) (ci := 0) (v := .ref (ad 2)) (C := RX0) (T := TX0) (N := 12) hx hb hts hin0 hown hK hP 0 rfl rfl 2 (by decide) (hts (.fieldLink RX0 17 "RumourReasoner" "steady" "[Z") (by decide +kernel)) (fun _ h9 => h9) rfl dX0_addFormula_13 ?_
  refine lv_iload_n hx hb dX0_addFormula_16 rfl (lv_at hl 0 rfl) ?_
  refine lv_iload_n hx hb dX0_addFormula_17 rfl (lv_at hl 3 rfl) ?_
  refine st_nz hx hb hK hP hD hS 2 1 rfl rfl (j := n) (by omega) (by decide) dX0_addFormula_18 (fun H locs hP hD hS => ?_)
  replace hP : va_P D vwCl (wC ad cI cZ cJ n (va_up kd n k) (va_up sd n b) ts fs tr on rp lt ru lg lp) H := by rw [bI_nar, upB] at hP; exact hP
  replace hD : va_D A (wC ad cI cZ cJ n (va_up kd n k) (va_up sd n b) ts fs tr on rp lt ru lg lp) := sameD rfl hD
  refine lv_aload_n hx hb dX0_addFormula_19 rfl (lv_at hl 1 rfl) ?_
  refine lv_dup hx hb dX0_addFormula_20 rfl ?_
  refine va_get (D := D) (ci := 0) (v := .int (nI n)) (C := RX0) (T := TX0) (N := 12) hx hb hts hin0 hown hK hP 0 rfl rfl 0 (by decide) (hts (.fieldLink RX0 9 "RumourReasoner" "count" "I") (by decide +kernel)) (fun _ h9 => h9) rfl dX0_addFormula_21 ?_
  refine lv_iconst (v := nI 1) hx hb dX0_addFormula_24 (by decide) ?_
  refine lv_iadd hx hb dX0_addFormula_25 ?_
  refine tc_int (y := nI (n + 1)) (nI_add _ _) ?_
  refine va_put (D := D) (ci := 0) (v := .int (nI (n + 1))) (ty := .int) (C := RX0) (T := TX0) (N := 12) hx hb hts hin0 tyX0 tyX0_ok nmX0 hown hK hP hD hS 0 rfl rfl 0 (by decide) (hts (.fieldLink RX0 9 "RumourReasoner" "count" "I") (by decide +kernel)) (fun _ h9 => h9) rfl (by decide +kernel) rfl rfl (Nat.le_of_ble_eq_true rfl) dX0_addFormula_26 (fun H locs hP hD hS => ?_)
  have hP : va_P D vwCl (wC ad cI cZ cJ ((n + 1)) (va_up kd n k) (va_up sd n b) ts fs tr on rp lt ru lg lp) H := hP
  have hD : va_D A (wC ad cI cZ cJ ((n + 1)) (va_up kd n k) (va_up sd n b) ts fs tr on rp lt ru lg lp) := hD
  refine lv_iload_n hx hb dX0_addFormula_29 rfl (lv_at hl 0 rfl) ?_
  exact kret _ (fun _ => 0) _ _ _ _ (rfl) hP hS dX0_addFormula_30

theorem hin_X0_setTrust : ∀ w ∈ wsX00, w ∈ wsX0_setTrust := by first | exact fun _ h => List.mem_cons_of_mem _ (List.mem_append_right _ h) | exact fun _ h => List.mem_cons_of_mem _ (List.mem_append_left _ (List.mem_append_right _ h)) | exact fun _ h => List.mem_cons_of_mem _ (List.mem_append_left _ (List.mem_append_left _ (List.mem_append_right _ h))) | exact fun _ h => List.mem_cons_of_mem _ (List.mem_append_left _ (List.mem_append_left _ (List.mem_append_left _ (List.mem_append_right _ h)))) | decide +kernel
def rm_X0_setTrust : Room := { frames := 1, cells := 0, slots := 0, locals := 20 }
set_option maxHeartbeats 4000000 in
set_option maxRecDepth 100000 in
theorem c_X0_setTrust (a t : Nat) (ha : a < 6) (ht100 : 1 ≤ t ∧ t ≤ 100) : MuI l yX0_setTrust wsX0_setTrust rm_X0_setTrust D vwCl (wC ad cI cZ cJ n kd sd ts fs tr on rp lt ru lg lp) (fun _ => wC ad cI cZ cJ n kd sd ts fs (va_up tr a t) on rp lt ru lg lp) (tyC cI cZ cJ) [.ref (ad 0), .int (nI a), .int (nI t)] (nI (tr a)) := by
  refine MuI.of (cc := cX0_setTrust) (maxL := 4) (by decide) rfl (Nat.le_of_ble_eq_true rfl) (vp_nar_int _) ?_
  intro A p e s m args below meth c Q ls hx hb hml hown hts hP hK hD kret hl
  have hown : s.vm.findClass RX0 = some m.cls := hown
  have hl : lv_has ls 4 [(0, .ref (ad 0)), (1, .int (nI a)), (2, .int (nI t))] := hl
  have hS : va_S A s.heap s.heap [] := va_S.rf
  have hin0 : ∀ w ∈ u_ws RX0 TX0 12, w ∈ wsX0_setTrust := hin_X0_setTrust
  refine lv_iload_n hx hb dX0_setTrust_0 rfl (lv_at hl 1 rfl) ?_
  refine puV_S (own := RX0) (As := [.int (nI a)]) (rest := []) ⟨hx, hb, hml, hown, hts⟩ (c_X0_requireSource l D a (by omega)) gX0_setTrust_X0_requireSource rfl ⟨rfl, rfl⟩ 1 rfl (by decide +kernel) ⟨Nat.le_of_ble_eq_true rfl, Nat.le_of_ble_eq_true rfl⟩ nilP (hK.sub (tys' := []) [] rfl) hS hl.1 rfl (Nat.le_of_ble_eq_true rfl) dX0_setTrust_1 ⟨Nat.zero_le _, Nat.zero_le _⟩ (fun H locs hk1 hS => ?_)
  replace hP := keptP hP hk1
  refine lv_iload_n hx hb dX0_setTrust_4 rfl (lv_at hl 2 rfl) ?_
  refine puV_S (own := RX0) (As := [.int (nI t)]) (rest := []) ⟨hx, hb, hml, hown, hts⟩ (c_X0_requireTrust l D t (by omega)) gX0_setTrust_X0_requireTrust rfl ⟨rfl, rfl⟩ 1 rfl (by decide +kernel) ⟨Nat.le_of_ble_eq_true rfl, Nat.le_of_ble_eq_true rfl⟩ nilP (hK.sub (tys' := []) [] rfl) hS hl.1 rfl (Nat.le_of_ble_eq_true rfl) dX0_setTrust_5 ⟨Nat.zero_le _, Nat.zero_le _⟩ (fun H locs hk1 hS => ?_)
  replace hP := keptP hP hk1
  refine lv_aload_n hx hb dX0_setTrust_8 rfl (lv_at hl 0 rfl) ?_
  refine va_get (D := D) (ci := 0) (v := .ref (ad 5)) (C := RX0) (T := TX0) (N := 12) hx hb hts hin0 hown hK hP 0 rfl rfl 5 (by decide) (hts (.fieldLink RX0 28 "RumourReasoner" "trusts" "[I") (by decide +kernel)) (fun _ h9 => h9) rfl dX0_setTrust_9 ?_
  refine lv_iload_n hx hb dX0_setTrust_12 rfl (lv_at hl 1 rfl) ?_
  refine ld_ni hx hb hK hP 5 0 rfl rfl (j := a) (by omega) (by decide) dX0_setTrust_13 ?_
  refine lv_istore_n (lv' := [(3, .int (nI (tr a))), (0, .ref (ad 0)), (1, .int (nI a)), (2, .int (nI t))]) hx hb dX0_setTrust_14 rfl hl (by decide) rfl (fun ls hl => ?_)
  refine lv_aload_n hx hb dX0_setTrust_15 rfl (lv_at hl 1 rfl) ?_
  refine va_get (D := D) (ci := 0) (v := .ref (ad 5)) (C := RX0) (T := TX0) (N := 12) hx hb hts hin0 hown hK hP 0 rfl rfl 5 (by decide) (hts (.fieldLink RX0 28 "RumourReasoner" "trusts" "[I") (by decide +kernel)) (fun _ h9 => h9) rfl dX0_setTrust_16 ?_
  refine lv_iload_n hx hb dX0_setTrust_19 rfl (lv_at hl 2 rfl) ?_
  refine lv_iload_n hx hb dX0_setTrust_20 rfl (lv_at hl 3 rfl) ?_
  refine st_ni hx hb hK hP hD hS 5 0 rfl rfl (j := a) (by omega) (by decide) dX0_setTrust_21 (fun H locs hP hD hS => ?_)
  replace hP : va_P D vwCl (wC ad cI cZ cJ n kd sd ts fs (va_up tr a t) on rp lt ru lg lp) H := by rw [upN] at hP; exact hP
  replace hD : va_D A (wC ad cI cZ cJ n kd sd ts fs (va_up tr a t) on rp lt ru lg lp) := sameD rfl hD
  refine lv_iload_n hx hb dX0_setTrust_22 rfl (lv_at hl 0 rfl) ?_
  exact kret _ (fun _ => 0) _ _ _ _ (rfl) hP hS dX0_setTrust_23

theorem hin_X0_setLeastTrust : ∀ w ∈ wsX00, w ∈ wsX0_setLeastTrust := by first | exact fun _ h => List.mem_cons_of_mem _ (List.mem_append_right _ h) | exact fun _ h => List.mem_cons_of_mem _ (List.mem_append_left _ (List.mem_append_right _ h)) | exact fun _ h => List.mem_cons_of_mem _ (List.mem_append_left _ (List.mem_append_left _ (List.mem_append_right _ h))) | exact fun _ h => List.mem_cons_of_mem _ (List.mem_append_left _ (List.mem_append_left _ (List.mem_append_left _ (List.mem_append_right _ h)))) | decide +kernel
def rm_X0_setLeastTrust : Room := { frames := 1, cells := 0, slots := 0, locals := 20 }
set_option maxHeartbeats 4000000 in
set_option maxRecDepth 100000 in
theorem c_X0_setLeastTrust (t : Nat) (ht100 : 1 ≤ t ∧ t ≤ 100) : MuI l yX0_setLeastTrust wsX0_setLeastTrust rm_X0_setLeastTrust D vwCl (wC ad cI cZ cJ n kd sd ts fs tr on rp lt ru lg lp) (fun _ => wC ad cI cZ cJ n kd sd ts fs tr on rp t ru lg lp) (tyC cI cZ cJ) [.ref (ad 0), .int (nI t)] (nI lt) := by
  refine MuI.of (cc := cX0_setLeastTrust) (maxL := 3) (by decide) rfl (Nat.le_of_ble_eq_true rfl) (vp_nar_int _) ?_
  intro A p e s m args below meth c Q ls hx hb hml hown hts hP hK hD kret hl
  have hown : s.vm.findClass RX0 = some m.cls := hown
  have hl : lv_has ls 3 [(0, .ref (ad 0)), (1, .int (nI t))] := hl
  have hS : va_S A s.heap s.heap [] := va_S.rf
  have hin0 : ∀ w ∈ u_ws RX0 TX0 12, w ∈ wsX0_setLeastTrust := hin_X0_setLeastTrust
  refine lv_iload_n hx hb dX0_setLeastTrust_0 rfl (lv_at hl 1 rfl) ?_
  refine puV_S (own := RX0) (As := [.int (nI t)]) (rest := []) ⟨hx, hb, hml, hown, hts⟩ (c_X0_requireTrust l D t (by omega)) gX0_setLeastTrust_X0_requireTrust rfl ⟨rfl, rfl⟩ 1 rfl (by decide +kernel) ⟨Nat.le_of_ble_eq_true rfl, Nat.le_of_ble_eq_true rfl⟩ nilP (hK.sub (tys' := []) [] rfl) hS hl.1 rfl (Nat.le_of_ble_eq_true rfl) dX0_setLeastTrust_1 ⟨Nat.zero_le _, Nat.zero_le _⟩ (fun H locs hk1 hS => ?_)
  replace hP := keptP hP hk1
  refine lv_aload_n hx hb dX0_setLeastTrust_4 rfl (lv_at hl 0 rfl) ?_
  refine va_get (D := D) (ci := 0) (v := .int (nI lt)) (C := RX0) (T := TX0) (N := 12) hx hb hts hin0 hown hK hP 0 rfl rfl 8 (by decide) (hts (.fieldLink RX0 37 "RumourReasoner" "leastTrust" "I") (by decide +kernel)) (fun _ h9 => h9) rfl dX0_setLeastTrust_5 ?_
  refine lv_istore_n (lv' := [(2, .int (nI lt)), (0, .ref (ad 0)), (1, .int (nI t))]) hx hb dX0_setLeastTrust_8 rfl hl (by decide) rfl (fun ls hl => ?_)
  refine lv_aload_n hx hb dX0_setLeastTrust_9 rfl (lv_at hl 1 rfl) ?_
  refine lv_iload_n hx hb dX0_setLeastTrust_10 rfl (lv_at hl 2 rfl) ?_
  refine va_put (D := D) (ci := 0) (v := .int (nI t)) (ty := .int) (C := RX0) (T := TX0) (N := 12) hx hb hts hin0 tyX0 tyX0_ok nmX0 hown hK hP hD hS 0 rfl rfl 8 (by decide) (hts (.fieldLink RX0 37 "RumourReasoner" "leastTrust" "I") (by decide +kernel)) (fun _ h9 => h9) rfl (by decide +kernel) rfl rfl (Nat.le_of_ble_eq_true rfl) dX0_setLeastTrust_11 (fun H locs hP hD hS => ?_)
  have hP : va_P D vwCl (wC ad cI cZ cJ n kd sd ts fs tr on rp t ru lg lp) H := hP
  have hD : va_D A (wC ad cI cZ cJ n kd sd ts fs tr on rp t ru lg lp) := hD
  refine lv_iload_n hx hb dX0_setLeastTrust_14 rfl (lv_at hl 0 rfl) ?_
  exact kret _ (fun _ => 0) _ _ _ _ (rfl) hP hS dX0_setLeastTrust_15

theorem hin_X0_let : ∀ w ∈ wsX00, w ∈ wsX0_let := by first | exact fun _ h => List.mem_cons_of_mem _ (List.mem_append_right _ h) | exact fun _ h => List.mem_cons_of_mem _ (List.mem_append_left _ (List.mem_append_right _ h)) | exact fun _ h => List.mem_cons_of_mem _ (List.mem_append_left _ (List.mem_append_left _ (List.mem_append_right _ h))) | exact fun _ h => List.mem_cons_of_mem _ (List.mem_append_left _ (List.mem_append_left _ (List.mem_append_left _ (List.mem_append_right _ h)))) | decide +kernel
def rm_X0_let : Room := { frames := 1, cells := 0, slots := 0, locals := 21 }
set_option maxHeartbeats 4000000 in
set_option maxRecDepth 100000 in
theorem c_X0_let (hO : OKC n tr rp lt lg ru) (a : Nat) (b : Bool) (ha : a < 6) : MuI l yX0_let wsX0_let rm_X0_let D vwCl (wC ad cI cZ cJ n kd sd ts fs tr on rp lt ru lg lp) (fun _ => wC ad cI cZ cJ n kd sd ts fs tr (va_up on a b) rp lt ru lg lp) (tyC cI cZ cJ) [.ref (ad 0), .int (nI a), .int (bI b)] (bI (hdB tr (va_up on a b) lt a)) := by
  refine MuI.of (cc := cX0_let) (maxL := 3) (by decide) rfl (Nat.le_of_ble_eq_true rfl) (bI_n _) ?_
  intro A p e s m args below meth c Q ls hx hb hml hown hts hP hK hD kret hl
  have hown : s.vm.findClass RX0 = some m.cls := hown
  have hl : lv_has ls 3 [(0, .ref (ad 0)), (1, .int (nI a)), (2, .int (bI b))] := hl
  have hS : va_S A s.heap s.heap [] := va_S.rf
  have hin0 : ∀ w ∈ u_ws RX0 TX0 12, w ∈ wsX0_let := hin_X0_let
  refine lv_iload_n hx hb dX0_let_0 rfl (lv_at hl 1 rfl) ?_
  refine puV_S (own := RX0) (As := [.int (nI a)]) (rest := []) ⟨hx, hb, hml, hown, hts⟩ (c_X0_requireSource l D a (by omega)) gX0_let_X0_requireSource rfl ⟨rfl, rfl⟩ 1 rfl (by decide +kernel) ⟨Nat.le_of_ble_eq_true rfl, Nat.le_of_ble_eq_true rfl⟩ nilP (hK.sub (tys' := []) [] rfl) hS hl.1 rfl (Nat.le_of_ble_eq_true rfl) dX0_let_1 ⟨Nat.zero_le _, Nat.zero_le _⟩ (fun H locs hk1 hS => ?_)
  replace hP := keptP hP hk1
  refine lv_aload_n hx hb dX0_let_4 rfl (lv_at hl 0 rfl) ?_
  refine va_get (D := D) (ci := 0) (v := .ref (ad 6)) (C := RX0) (T := TX0) (N := 12) hx hb hts hin0 hown hK hP 0 rfl rfl 6 (by decide) (hts (.fieldLink RX0 31 "RumourReasoner" "on" "[Z") (by decide +kernel)) (fun _ h9 => h9) rfl dX0_let_5 ?_
  refine lv_iload_n hx hb dX0_let_8 rfl (lv_at hl 1 rfl) ?_
  refine lv_iload_n hx hb dX0_let_9 rfl (lv_at hl 2 rfl) ?_
  refine st_nz hx hb hK hP hD hS 6 1 rfl rfl (j := a) (by omega) (by decide) dX0_let_10 (fun H locs hP hD hS => ?_)
  replace hP : va_P D vwCl (wC ad cI cZ cJ n kd sd ts fs tr (va_up on a b) rp lt ru lg lp) H := by rw [bI_nar, upB] at hP; exact hP
  replace hD : va_D A (wC ad cI cZ cJ n kd sd ts fs tr (va_up on a b) rp lt ru lg lp) := sameD rfl hD
  refine lv_aload_n hx hb dX0_let_11 rfl (lv_at hl 0 rfl) ?_
  refine lv_iload_n hx hb dX0_let_12 rfl (lv_at hl 1 rfl) ?_
  refine puI_V (own := RX0) (As := [.int (nI a)]) (rest := []) (C := RX0) (ci := 0) (q0 := 0) ⟨hx, hb, hml, hown, hts⟩ (c_X0_isHeard l D ad cI cZ cJ n kd sd ts fs tr (va_up on a b) rp lt ru lg lp hO a (by omega)) gX0_let_X0_isHeard rfl ⟨rfl, rfl⟩ 1 rfl (by decide +kernel) ⟨Nat.le_of_ble_eq_true rfl, Nat.le_of_ble_eq_true rfl⟩ hP hK rfl rfl rfl hS hl.1 rfl (Nat.le_of_ble_eq_true rfl) dX0_let_13 ⟨Nat.zero_le _, Nat.zero_le _⟩ (fun H locs hk1 hS => ?_)
  replace hP := keptP hP hk1
  exact kret _ (fun _ => 0) _ _ _ _ (rfl) hP hS dX0_let_16

theorem hin_X0_report : ∀ w ∈ wsX00, w ∈ wsX0_report := by first | exact fun _ h => List.mem_cons_of_mem _ (List.mem_append_right _ h) | exact fun _ h => List.mem_cons_of_mem _ (List.mem_append_left _ (List.mem_append_right _ h)) | exact fun _ h => List.mem_cons_of_mem _ (List.mem_append_left _ (List.mem_append_left _ (List.mem_append_right _ h))) | exact fun _ h => List.mem_cons_of_mem _ (List.mem_append_left _ (List.mem_append_left _ (List.mem_append_left _ (List.mem_append_right _ h)))) | decide +kernel
def rm_X0_report : Room := { frames := 2, cells := 0, slots := 0, locals := 41 }
set_option maxHeartbeats 4000000 in
set_option maxRecDepth 100000 in
theorem c_X0_report (hO : OKC n tr rp lt lg ru) (a b v : Nat) (ha : a < 6) (hb6 : b < 6) (hv : v < 4) : MuI l yX0_report wsX0_report rm_X0_report D vwCl (wC ad cI cZ cJ n kd sd ts fs tr on rp lt ru lg lp) (fun _ => wC ad cI cZ cJ n kd sd ts fs tr on (va_up rp a (rpU (rp a) b v)) lt ru lg lp) (tyC cI cZ cJ) [.ref (ad 0), .int (nI a), .int (nI b), .int (nI v)] (nI (dg (rp a) b)) := by
  refine MuI.of (cc := cX0_report) (maxL := 6) (by decide) rfl (Nat.le_of_ble_eq_true rfl) (vp_nar_int _) ?_
  intro A p e s m args below meth c Q ls hx hb hml hown hts hP hK hD kret hl
  have hown : s.vm.findClass RX0 = some m.cls := hown
  have hl : lv_has ls 6 [(0, .ref (ad 0)), (1, .int (nI a)), (2, .int (nI b)), (3, .int (nI v))] := hl
  have hS : va_S A s.heap s.heap [] := va_S.rf
  have hin0 : ∀ w ∈ u_ws RX0 TX0 12, w ∈ wsX0_report := hin_X0_report
  refine lv_iload_n hx hb dX0_report_0 rfl (lv_at hl 1 rfl) ?_
  refine puV_S (own := RX0) (As := [.int (nI a)]) (rest := []) ⟨hx, hb, hml, hown, hts⟩ (c_X0_requireSource l D a (by omega)) gX0_report_X0_requireSource rfl ⟨rfl, rfl⟩ 1 rfl (by decide +kernel) ⟨Nat.le_of_ble_eq_true rfl, Nat.le_of_ble_eq_true rfl⟩ nilP (hK.sub (tys' := []) [] rfl) hS hl.1 rfl (Nat.le_of_ble_eq_true rfl) dX0_report_1 ⟨Nat.zero_le _, Nat.zero_le _⟩ (fun H locs hk1 hS => ?_)
  replace hP := keptP hP hk1
  refine lv_iload_n hx hb dX0_report_4 rfl (lv_at hl 2 rfl) ?_
  refine puV_S (own := RX0) (As := [.int (nI b)]) (rest := []) ⟨hx, hb, hml, hown, hts⟩ (c_X0_requireAtom l D b (by omega)) gX0_report_X0_requireAtom rfl ⟨rfl, rfl⟩ 1 rfl (by decide +kernel) ⟨Nat.le_of_ble_eq_true rfl, Nat.le_of_ble_eq_true rfl⟩ nilP (hK.sub (tys' := []) [] rfl) hS hl.1 rfl (Nat.le_of_ble_eq_true rfl) dX0_report_5 ⟨Nat.zero_le _, Nat.zero_le _⟩ (fun H locs hk1 hS => ?_)
  replace hP := keptP hP hk1
  refine lv_iload_n hx hb dX0_report_8 rfl (lv_at hl 3 rfl) ?_
  refine puV_S (own := RX0) (As := [.int (nI v)]) (rest := []) ⟨hx, hb, hml, hown, hts⟩ (c_X0_requireValue l D v (by omega)) gX0_report_X0_requireValue rfl ⟨rfl, rfl⟩ 1 rfl (by decide +kernel) ⟨Nat.le_of_ble_eq_true rfl, Nat.le_of_ble_eq_true rfl⟩ nilP (hK.sub (tys' := []) [] rfl) hS hl.1 rfl (Nat.le_of_ble_eq_true rfl) dX0_report_9 ⟨Nat.zero_le _, Nat.zero_le _⟩ (fun H locs hk1 hS => ?_)
  replace hP := keptP hP hk1
  refine lv_aload_n hx hb dX0_report_12 rfl (lv_at hl 0 rfl) ?_
  refine va_get (D := D) (ci := 0) (v := .ref (ad 7)) (C := RX0) (T := TX0) (N := 12) hx hb hts hin0 hown hK hP 0 rfl rfl 7 (by decide) (hts (.fieldLink RX0 34 "RumourReasoner" "reports" "[I") (by decide +kernel)) (fun _ h9 => h9) rfl dX0_report_13 ?_
  refine lv_iload_n hx hb dX0_report_16 rfl (lv_at hl 1 rfl) ?_
  refine ld_ni hx hb hK hP 7 0 rfl rfl (j := a) (by omega) (by decide) dX0_report_17 ?_
  refine lv_iload_n hx hb dX0_report_18 rfl (lv_at hl 2 rfl) ?_
  refine puI_S (own := RX0) (As := [.int (nI (rp a)), .int (nI b)]) (rest := []) ⟨hx, hb, hml, hown, hts⟩ (c_X0_valueIn l D (rp a) b (hO.2.2.1 a ha) (by omega)) gX0_report_X0_valueIn rfl ⟨rfl, rfl⟩ 2 rfl (by decide +kernel) ⟨Nat.le_of_ble_eq_true rfl, Nat.le_of_ble_eq_true rfl⟩ nilP (hK.sub (tys' := []) [] rfl) hS hl.1 rfl (Nat.le_of_ble_eq_true rfl) dX0_report_19 ⟨Nat.zero_le _, Nat.zero_le _⟩ (fun H locs hk1 hS => ?_)
  replace hP := keptP hP hk1
  refine lv_istore (lv' := [(4, .int (nI (dg (rp a) b))), (0, .ref (ad 0)), (1, .int (nI a)), (2, .int (nI b)), (3, .int (nI v))]) hx hb dX0_report_22 hl (by decide) rfl (fun ls hl => ?_)
  refine lv_aload_n hx hb dX0_report_24 rfl (lv_at hl 1 rfl) ?_
  refine va_get (D := D) (ci := 0) (v := .ref (ad 7)) (C := RX0) (T := TX0) (N := 12) hx hb hts hin0 hown hK hP 0 rfl rfl 7 (by decide) (hts (.fieldLink RX0 34 "RumourReasoner" "reports" "[I") (by decide +kernel)) (fun _ h9 => h9) rfl dX0_report_25 ?_
  refine lv_iload_n hx hb dX0_report_28 rfl (lv_at hl 2 rfl) ?_
  refine ld_ni hx hb hK hP 7 0 rfl rfl (j := a) (by omega) (by decide) dX0_report_29 ?_
  refine lv_iconst (v := nI 3) hx hb dX0_report_30 (by decide) ?_
  refine lv_iload_n hx hb dX0_report_31 rfl (lv_at hl 3 rfl) ?_
  refine puI_S (own := RX0) (As := [.int (nI b)]) (rest := [.int (nI 3), .int (nI (rp a))]) ⟨hx, hb, hml, hown, hts⟩ (c_X0_placeOf l D b (by omega)) gX0_report_X0_placeOf rfl ⟨rfl, rfl⟩ 1 rfl (by decide +kernel) ⟨Nat.le_of_ble_eq_true rfl, Nat.le_of_ble_eq_true rfl⟩ nilP (hK.sub (tys' := []) [] rfl) hS hl.1 rfl (Nat.le_of_ble_eq_true rfl) dX0_report_32 ⟨Nat.zero_le _, Nat.zero_le _⟩ (fun H locs hk1 hS => ?_)
  replace hP := keptP hP hk1
  refine lv_ishl hx hb dX0_report_35 ?_
  refine tc_int (y := nI (3 * 2 ^ (2 * (5 - b)))) (shlP (by decide)) ?_
  refine lv_iconst (v := (-1)) hx hb dX0_report_36 (by decide) ?_
  refine lv_ixor hx hb dX0_report_37 ?_
  refine lv_iand hx hb dX0_report_38 ?_
  refine tc_int (y := nI (rp a &&& (4095 ^^^ (3 * 2 ^ (2 * (5 - b)))))) (andnot (k := 12) (hO.2.2.1 a ha)) ?_
  refine lv_istore (lv' := [(5, .int (nI (rp a &&& (4095 ^^^ (3 * 2 ^ (2 * (5 - b))))))), (4, .int (nI (dg (rp a) b))), (0, .ref (ad 0)), (1, .int (nI a)), (2, .int (nI b)), (3, .int (nI v))]) hx hb dX0_report_39 hl (by decide) rfl (fun ls hl => ?_)
  refine lv_aload_n hx hb dX0_report_41 rfl (lv_at hl 2 rfl) ?_
  refine va_get (D := D) (ci := 0) (v := .ref (ad 7)) (C := RX0) (T := TX0) (N := 12) hx hb hts hin0 hown hK hP 0 rfl rfl 7 (by decide) (hts (.fieldLink RX0 34 "RumourReasoner" "reports" "[I") (by decide +kernel)) (fun _ h9 => h9) rfl dX0_report_42 ?_
  refine lv_iload_n hx hb dX0_report_45 rfl (lv_at hl 3 rfl) ?_
  refine lv_iload hx hb dX0_report_46 (lv_at hl 0 rfl) ?_
  refine lv_iload_n hx hb dX0_report_48 rfl (lv_at hl 5 rfl) ?_
  refine lv_iload_n hx hb dX0_report_49 rfl (lv_at hl 4 rfl) ?_
  refine puI_S (own := RX0) (As := [.int (nI b)]) (rest := [.int (nI v), .int (nI (rp a &&& (4095 ^^^ (3 * 2 ^ (2 * (5 - b)))))), .int (nI a), .ref (ad 7)]) ⟨hx, hb, hml, hown, hts⟩ (c_X0_placeOf l D b (by omega)) gX0_report_X0_placeOf rfl ⟨rfl, rfl⟩ 1 rfl (by decide +kernel) ⟨Nat.le_of_ble_eq_true rfl, Nat.le_of_ble_eq_true rfl⟩ nilP (hK.sub (tys' := []) [] rfl) hS hl.1 rfl (Nat.le_of_ble_eq_true rfl) dX0_report_50 ⟨Nat.zero_le _, Nat.zero_le _⟩ (fun H locs hk1 hS => ?_)
  replace hP := keptP hP hk1
  refine lv_ishl hx hb dX0_report_53 ?_
  refine tc_int (y := nI (v * 2 ^ (2 * (5 - b)))) (shlP hv) ?_
  refine lv_ior hx hb dX0_report_54 ?_
  refine tc_int (y := nI (rpU (rp a) b v)) (fa_or _ _) ?_
  refine st_ni hx hb hK hP hD hS 7 0 rfl rfl (j := a) (by omega) (by decide) dX0_report_55 (fun H locs hP hD hS => ?_)
  replace hP : va_P D vwCl (wC ad cI cZ cJ n kd sd ts fs tr on (va_up rp a (rpU (rp a) b v)) lt ru lg lp) H := by rw [upN] at hP; exact hP
  replace hD : va_D A (wC ad cI cZ cJ n kd sd ts fs tr on (va_up rp a (rpU (rp a) b v)) lt ru lg lp) := sameD rfl hD
  refine lv_iload hx hb dX0_report_56 (lv_at hl 1 rfl) ?_
  exact kret _ (fun _ => 0) _ _ _ _ (rfl) hP hS dX0_report_58

theorem hin_X0_setRule : ∀ w ∈ wsX00, w ∈ wsX0_setRule := by first | exact fun _ h => List.mem_cons_of_mem _ (List.mem_append_right _ h) | exact fun _ h => List.mem_cons_of_mem _ (List.mem_append_left _ (List.mem_append_right _ h)) | exact fun _ h => List.mem_cons_of_mem _ (List.mem_append_left _ (List.mem_append_left _ (List.mem_append_right _ h))) | exact fun _ h => List.mem_cons_of_mem _ (List.mem_append_left _ (List.mem_append_left _ (List.mem_append_left _ (List.mem_append_right _ h)))) | decide +kernel
def rm_X0_setRule : Room := { frames := 1, cells := 0, slots := 0, locals := 21 }
set_option maxHeartbeats 4000000 in
set_option maxRecDepth 100000 in
theorem c_X0_setRule_0 (a : Nat) (ha : a < 6) : MuI l yX0_setRule wsX0_setRule rm_X0_setRule D vwCl (wC ad cI cZ cJ n kd sd ts fs tr on rp lt ru lg lp) (fun _ => wC ad cI cZ cJ n kd sd ts fs tr on rp lt (va_up ru a none) lg lp) (tyC cI cZ cJ) [.ref (ad 0), .int (nI a), .int (rI none)] (rI (ru a)) := by
  refine MuI.of (cc := cX0_setRule) (maxL := 4) (by decide) rfl (Nat.le_of_ble_eq_true rfl) (vp_nar_int _) ?_
  intro A p e s m args below meth c Q ls hx hb hml hown hts hP hK hD kret hl
  have hown : s.vm.findClass RX0 = some m.cls := hown
  have hl : lv_has ls 4 [(0, .ref (ad 0)), (1, .int (nI a)), (2, .int (rI none))] := hl
  have hS : va_S A s.heap s.heap [] := va_S.rf
  have hin0 : ∀ w ∈ u_ws RX0 TX0 12, w ∈ wsX0_setRule := hin_X0_setRule
  refine lv_iload_n hx hb dX0_setRule_0 rfl (lv_at hl 1 rfl) ?_
  refine puV_S (own := RX0) (As := [.int (nI a)]) (rest := []) ⟨hx, hb, hml, hown, hts⟩ (c_X0_requireAtom l D a (by omega)) gX0_setRule_X0_requireAtom rfl ⟨rfl, rfl⟩ 1 rfl (by decide +kernel) ⟨Nat.le_of_ble_eq_true rfl, Nat.le_of_ble_eq_true rfl⟩ nilP (hK.sub (tys' := []) [] rfl) hS hl.1 rfl (Nat.le_of_ble_eq_true rfl) dX0_setRule_1 ⟨Nat.zero_le _, Nat.zero_le _⟩ (fun H locs hk1 hS => ?_)
  replace hP := keptP hP hk1
  refine lv_iload_n hx hb dX0_setRule_4 rfl (lv_at hl 2 rfl) ?_
  refine lv_iconst (v := (-1)) hx hb dX0_setRule_5 (by decide) ?_
  refine cT_eq (tgt := 19) hx hb dX0_setRule_6 (by decide) (rfl) ?_
  refine lv_aload_n hx hb dX0_setRule_19 rfl (lv_at hl 0 rfl) ?_
  refine va_get (D := D) (ci := 0) (v := .ref (ad 8)) (C := RX0) (T := TX0) (N := 12) hx hb hts hin0 hown hK hP 0 rfl rfl 9 (by decide) (hts (.fieldLink RX0 40 "RumourReasoner" "rules" "[I") (by decide +kernel)) (fun _ h9 => h9) rfl dX0_setRule_20 ?_
  refine lv_iload_n hx hb dX0_setRule_23 rfl (lv_at hl 1 rfl) ?_
  refine ld_ni hx hb hK hP 8 0 rfl rfl (j := a) (by omega) (by decide) dX0_setRule_24 ?_
  refine lv_istore_n (lv' := [(3, .int (rI (ru a))), (0, .ref (ad 0)), (1, .int (nI a)), (2, .int (rI none))]) hx hb dX0_setRule_25 rfl hl (by decide) rfl (fun ls hl => ?_)
  refine lv_aload_n hx hb dX0_setRule_26 rfl (lv_at hl 1 rfl) ?_
  refine va_get (D := D) (ci := 0) (v := .ref (ad 8)) (C := RX0) (T := TX0) (N := 12) hx hb hts hin0 hown hK hP 0 rfl rfl 9 (by decide) (hts (.fieldLink RX0 40 "RumourReasoner" "rules" "[I") (by decide +kernel)) (fun _ h9 => h9) rfl dX0_setRule_27 ?_
  refine lv_iload_n hx hb dX0_setRule_30 rfl (lv_at hl 2 rfl) ?_
  refine lv_iload_n hx hb dX0_setRule_31 rfl (lv_at hl 3 rfl) ?_
  refine st_ni hx hb hK hP hD hS 8 0 rfl rfl (j := a) (by omega) (by decide) dX0_setRule_32 (fun H locs hP hD hS => ?_)
  replace hP : va_P D vwCl (wC ad cI cZ cJ n kd sd ts fs tr on rp lt (va_up ru a none) lg lp) H := by rw [upR] at hP; exact hP
  replace hD : va_D A (wC ad cI cZ cJ n kd sd ts fs tr on rp lt (va_up ru a none) lg lp) := sameD rfl hD
  refine lv_iload_n hx hb dX0_setRule_33 rfl (lv_at hl 0 rfl) ?_
  exact kret _ (fun _ => 0) _ _ _ _ (rfl) hP hS dX0_setRule_34

set_option maxHeartbeats 4000000 in
set_option maxRecDepth 100000 in
theorem c_X0_setRule_1 (hO : OKC n tr rp lt lg ru) (a f : Nat) (ha : a < 6) (hf : f < n) (hs : sd f = true) : MuI l yX0_setRule wsX0_setRule rm_X0_setRule D vwCl (wC ad cI cZ cJ n kd sd ts fs tr on rp lt ru lg lp) (fun _ => wC ad cI cZ cJ n kd sd ts fs tr on rp lt (va_up ru a (some f)) lg lp) (tyC cI cZ cJ) [.ref (ad 0), .int (nI a), .int (rI (some f))] (rI (ru a)) := by
  refine MuI.of (cc := cX0_setRule) (maxL := 4) (by decide) rfl (Nat.le_of_ble_eq_true rfl) (vp_nar_int _) ?_
  intro A p e s m args below meth c Q ls hx hb hml hown hts hP hK hD kret hl
  have hown : s.vm.findClass RX0 = some m.cls := hown
  have hl : lv_has ls 4 [(0, .ref (ad 0)), (1, .int (nI a)), (2, .int (rI (some f)))] := hl
  have hS : va_S A s.heap s.heap [] := va_S.rf
  have hin0 : ∀ w ∈ u_ws RX0 TX0 12, w ∈ wsX0_setRule := hin_X0_setRule
  have hn40 := hO.1
  refine lv_iload_n hx hb dX0_setRule_0 rfl (lv_at hl 1 rfl) ?_
  refine puV_S (own := RX0) (As := [.int (nI a)]) (rest := []) ⟨hx, hb, hml, hown, hts⟩ (c_X0_requireAtom l D a (by omega)) gX0_setRule_X0_requireAtom rfl ⟨rfl, rfl⟩ 1 rfl (by decide +kernel) ⟨Nat.le_of_ble_eq_true rfl, Nat.le_of_ble_eq_true rfl⟩ nilP (hK.sub (tys' := []) [] rfl) hS hl.1 rfl (Nat.le_of_ble_eq_true rfl) dX0_setRule_1 ⟨Nat.zero_le _, Nat.zero_le _⟩ (fun H locs hk1 hS => ?_)
  replace hP := keptP hP hk1
  refine lv_iload_n hx hb dX0_setRule_4 rfl (lv_at hl 2 rfl) ?_
  refine lv_iconst (v := (-1)) hx hb dX0_setRule_5 (by decide) ?_
  refine cF_eq (tgt := 19) hx hb dX0_setRule_6 (by decide) (rI_ne (by omega)) ?_
  refine lv_aload_n hx hb dX0_setRule_9 rfl (lv_at hl 0 rfl) ?_
  refine lv_iload_n hx hb dX0_setRule_10 rfl (lv_at hl 2 rfl) ?_
  refine tc_int (y := nI f) (rfl) ?_
  refine puV_V (own := RX0) (As := [.int (nI f)]) (rest := []) (C := RX0) (ci := 0) (q0 := 0) ⟨hx, hb, hml, hown, hts⟩ (c_X0_requireFormula l D ad cI cZ cJ n kd sd ts fs tr on rp lt ru lg lp hO f (by omega)) gX0_setRule_X0_requireFormula rfl ⟨rfl, rfl⟩ 1 rfl (by decide +kernel) ⟨Nat.le_of_ble_eq_true rfl, Nat.le_of_ble_eq_true rfl⟩ hP hK rfl rfl rfl hS hl.1 rfl (Nat.le_of_ble_eq_true rfl) dX0_setRule_11 ⟨Nat.zero_le _, Nat.zero_le _⟩ (fun H locs hk1 hS => ?_)
  replace hP := keptP hP hk1
  refine lv_aload_n hx hb dX0_setRule_14 rfl (lv_at hl 0 rfl) ?_
  refine lv_iload_n hx hb dX0_setRule_15 rfl (lv_at hl 2 rfl) ?_
  refine tc_int (y := nI f) (rfl) ?_
  refine puV_V (own := RX0) (As := [.int (nI f)]) (rest := []) (C := RX0) (ci := 0) (q0 := 0) ⟨hx, hb, hml, hown, hts⟩ (c_X0_requireSteady l D ad cI cZ cJ n kd sd ts fs tr on rp lt ru lg lp f (by omega) hs) gX0_setRule_X0_requireSteady rfl ⟨rfl, rfl⟩ 1 rfl (by decide +kernel) ⟨Nat.le_of_ble_eq_true rfl, Nat.le_of_ble_eq_true rfl⟩ hP hK rfl rfl rfl hS hl.1 rfl (Nat.le_of_ble_eq_true rfl) dX0_setRule_16 ⟨Nat.zero_le _, Nat.zero_le _⟩ (fun H locs hk1 hS => ?_)
  replace hP := keptP hP hk1
  refine lv_aload_n hx hb dX0_setRule_19 rfl (lv_at hl 0 rfl) ?_
  refine va_get (D := D) (ci := 0) (v := .ref (ad 8)) (C := RX0) (T := TX0) (N := 12) hx hb hts hin0 hown hK hP 0 rfl rfl 9 (by decide) (hts (.fieldLink RX0 40 "RumourReasoner" "rules" "[I") (by decide +kernel)) (fun _ h9 => h9) rfl dX0_setRule_20 ?_
  refine lv_iload_n hx hb dX0_setRule_23 rfl (lv_at hl 1 rfl) ?_
  refine ld_ni hx hb hK hP 8 0 rfl rfl (j := a) (by omega) (by decide) dX0_setRule_24 ?_
  refine lv_istore_n (lv' := [(3, .int (rI (ru a))), (0, .ref (ad 0)), (1, .int (nI a)), (2, .int (rI (some f)))]) hx hb dX0_setRule_25 rfl hl (by decide) rfl (fun ls hl => ?_)
  refine lv_aload_n hx hb dX0_setRule_26 rfl (lv_at hl 1 rfl) ?_
  refine va_get (D := D) (ci := 0) (v := .ref (ad 8)) (C := RX0) (T := TX0) (N := 12) hx hb hts hin0 hown hK hP 0 rfl rfl 9 (by decide) (hts (.fieldLink RX0 40 "RumourReasoner" "rules" "[I") (by decide +kernel)) (fun _ h9 => h9) rfl dX0_setRule_27 ?_
  refine lv_iload_n hx hb dX0_setRule_30 rfl (lv_at hl 2 rfl) ?_
  refine lv_iload_n hx hb dX0_setRule_31 rfl (lv_at hl 3 rfl) ?_
  refine st_ni hx hb hK hP hD hS 8 0 rfl rfl (j := a) (by omega) (by decide) dX0_setRule_32 (fun H locs hP hD hS => ?_)
  replace hP : va_P D vwCl (wC ad cI cZ cJ n kd sd ts fs tr on rp lt (va_up ru a (some f)) lg lp) H := by rw [upR] at hP; exact hP
  replace hD : va_D A (wC ad cI cZ cJ n kd sd ts fs tr on rp lt (va_up ru a (some f)) lg lp) := sameD rfl hD
  refine lv_iload_n hx hb dX0_setRule_33 rfl (lv_at hl 0 rfl) ?_
  exact kret _ (fun _ => 0) _ _ _ _ (rfl) hP hS dX0_setRule_34

theorem hin_X0_setLogic : ∀ w ∈ wsX00, w ∈ wsX0_setLogic := by first | exact fun _ h => List.mem_cons_of_mem _ (List.mem_append_right _ h) | exact fun _ h => List.mem_cons_of_mem _ (List.mem_append_left _ (List.mem_append_right _ h)) | exact fun _ h => List.mem_cons_of_mem _ (List.mem_append_left _ (List.mem_append_left _ (List.mem_append_right _ h))) | exact fun _ h => List.mem_cons_of_mem _ (List.mem_append_left _ (List.mem_append_left _ (List.mem_append_left _ (List.mem_append_right _ h)))) | decide +kernel
def rm_X0_setLogic : Room := { frames := 1, cells := 0, slots := 0, locals := 26 }
set_option maxHeartbeats 4000000 in
set_option maxRecDepth 100000 in
theorem c_X0_setLogic (g : Nat) (hg : 1 ≤ g ∧ g ≤ 15) : MuI l yX0_setLogic wsX0_setLogic rm_X0_setLogic D vwCl (wC ad cI cZ cJ n kd sd ts fs tr on rp lt ru lg lp) (fun _ => wC ad cI cZ cJ n kd sd ts fs tr on rp lt ru g (tpL g 64)) (tyC cI cZ cJ) [.ref (ad 0), .int (nI g)] (nI lg) := by
  refine MuI.of (cc := cX0_setLogic) (maxL := 3) (by decide) rfl (Nat.le_of_ble_eq_true rfl) (vp_nar_int _) ?_
  intro A p e s m args below meth c Q ls hx hb hml hown hts hP hK hD kret hl
  have hown : s.vm.findClass RX0 = some m.cls := hown
  have hl : lv_has ls 3 [(0, .ref (ad 0)), (1, .int (nI g))] := hl
  have hS : va_S A s.heap s.heap [] := va_S.rf
  have hin0 : ∀ w ∈ u_ws RX0 TX0 12, w ∈ wsX0_setLogic := hin_X0_setLogic
  refine lv_iload_n hx hb dX0_setLogic_0 rfl (lv_at hl 1 rfl) ?_
  refine lv_iconst (v := nI 1) hx hb dX0_setLogic_1 (by decide) ?_
  refine cF_lt (tgt := 11) hx hb dX0_setLogic_2 (by decide) (nI_nlt (by omega) (by omega)) ?_
  refine lv_iload_n hx hb dX0_setLogic_5 rfl (lv_at hl 1 rfl) ?_
  refine lv_bipush (v := nI 15) hx hb dX0_setLogic_6 (by decide) ?_
  refine cT_le (tgt := 21) hx hb dX0_setLogic_8 (by decide) (nI_le (by omega) (by omega)) ?_
  refine lv_aload_n hx hb dX0_setLogic_21 rfl (lv_at hl 0 rfl) ?_
  refine va_get (D := D) (ci := 0) (v := .int (nI lg)) (C := RX0) (T := TX0) (N := 12) hx hb hts hin0 hown hK hP 0 rfl rfl 10 (by decide) (hts (.fieldLink RX0 43 "RumourReasoner" "logic" "I") (by decide +kernel)) (fun _ h9 => h9) rfl dX0_setLogic_22 ?_
  refine lv_istore_n (lv' := [(2, .int (nI lg)), (0, .ref (ad 0)), (1, .int (nI g))]) hx hb dX0_setLogic_25 rfl hl (by decide) rfl (fun ls hl => ?_)
  refine lv_aload_n hx hb dX0_setLogic_26 rfl (lv_at hl 1 rfl) ?_
  refine lv_iload_n hx hb dX0_setLogic_27 rfl (lv_at hl 2 rfl) ?_
  refine va_put (D := D) (ci := 0) (v := .int (nI g)) (ty := .int) (C := RX0) (T := TX0) (N := 12) hx hb hts hin0 tyX0 tyX0_ok nmX0 hown hK hP hD hS 0 rfl rfl 10 (by decide) (hts (.fieldLink RX0 43 "RumourReasoner" "logic" "I") (by decide +kernel)) (fun _ h9 => h9) rfl (by decide +kernel) rfl rfl (Nat.le_of_ble_eq_true rfl) dX0_setLogic_28 (fun H locs hP hD hS => ?_)
  have hP : va_P D vwCl (wC ad cI cZ cJ n kd sd ts fs tr on rp lt ru g lp) H := hP
  have hD : va_D A (wC ad cI cZ cJ n kd sd ts fs tr on rp lt ru g lp) := hD
  refine lv_aload_n hx hb dX0_setLogic_31 rfl (lv_at hl 1 rfl) ?_
  refine lv_iload_n hx hb dX0_setLogic_32 rfl (lv_at hl 2 rfl) ?_
  refine puL_S (own := RX0) (As := [.int (nI g)]) (rest := [.ref (ad 0)]) ⟨hx, hb, hml, hown, hts⟩ (c_X0_triplesOf l D g (by omega)) gX0_setLogic_X0_triplesOf rfl ⟨rfl, rfl⟩ 1 rfl (by decide +kernel) ⟨Nat.le_of_ble_eq_true rfl, Nat.le_of_ble_eq_true rfl⟩ nilP (hK.sub (tys' := []) [] rfl) hS hl.1 rfl (Nat.le_of_ble_eq_true rfl) dX0_setLogic_33 ⟨Nat.zero_le _, Nat.zero_le _⟩ (fun H locs hk1 hS => ?_)
  replace hP := keptP hP hk1
  refine va_put (D := D) (ci := 0) (v := .long (tpL g 64)) (ty := .long) (C := RX0) (T := TX0) (N := 12) hx hb hts hin0 tyX0 tyX0_ok nmX0 hown hK hP hD hS 0 rfl rfl 11 (by decide) (hts (.fieldLink RX0 48 "RumourReasoner" "logicTriples" "J") (by decide +kernel)) (fun _ h9 => h9) rfl (by decide +kernel) rfl rfl (Nat.le_of_ble_eq_true rfl) dX0_setLogic_36 (fun H locs hP hD hS => ?_)
  have hP : va_P D vwCl (wC ad cI cZ cJ n kd sd ts fs tr on rp lt ru g (tpL g 64)) H := hP
  have hD : va_D A (wC ad cI cZ cJ n kd sd ts fs tr on rp lt ru g (tpL g 64)) := hD
  refine lv_iload_n hx hb dX0_setLogic_39 rfl (lv_at hl 0 rfl) ?_
  exact kret _ (fun _ => 0) _ _ _ _ (rfl) hP hS dX0_setLogic_40

theorem hin_X0_atom : ∀ w ∈ wsX00, w ∈ wsX0_atom := by first | exact fun _ h => List.mem_cons_of_mem _ (List.mem_append_right _ h) | exact fun _ h => List.mem_cons_of_mem _ (List.mem_append_left _ (List.mem_append_right _ h)) | exact fun _ h => List.mem_cons_of_mem _ (List.mem_append_left _ (List.mem_append_left _ (List.mem_append_right _ h))) | exact fun _ h => List.mem_cons_of_mem _ (List.mem_append_left _ (List.mem_append_left _ (List.mem_append_left _ (List.mem_append_right _ h)))) | decide +kernel
def rm_X0_atom : Room := { frames := 1, cells := 0, slots := 0, locals := 23 }
set_option maxHeartbeats 4000000 in
set_option maxRecDepth 100000 in
theorem c_X0_atom (hO : OKC n tr rp lt lg ru) (a : Nat) (ha : a < 6) (hn40 : n < 40) : MuIe l yX0_atom wsX0_atom rm_X0_atom D vwCl (wC ad cI cZ cJ n kd sd ts fs tr on rp lt ru lg lp) (fun _ => wC ad cI cZ cJ (n + 1) (va_up kd n 0) (va_up sd n true) (pt ts (n * 64) (fun w => vbL (2 * (5 - a)) w) 64) (pt fs (n * 64) (fun w => vbL (2 * (5 - a) + 1) w) 64) tr on rp lt ru lg lp) (tyC cI cZ cJ) [.ref (ad 0), .int (nI a)] (nI n) := by
  refine MuIe.of (cc := cX0_atom) (maxL := 5) (by decide) rfl (Nat.le_of_ble_eq_true rfl) (vp_nar_int _) ?_
  intro A p e s m args below meth c Q ls hx hb hml hown hts hP hK hD hTB kret hl
  have hown : s.vm.findClass RX0 = some m.cls := hown
  have hl : lv_has ls 5 [(0, .ref (ad 0)), (1, .int (nI a))] := hl
  have hS : va_S A s.heap s.heap [] := va_S.rf
  have hin0 : ∀ w ∈ u_ws RX0 TX0 12, w ∈ wsX0_atom := hin_X0_atom
  refine lv_iload_n hx hb dX0_atom_0 rfl (lv_at hl 1 rfl) ?_
  refine puV_S (own := RX0) (As := [.int (nI a)]) (rest := []) ⟨hx, hb, hml, hown, hts⟩ (c_X0_requireAtom l D a (by omega)) gX0_atom_X0_requireAtom rfl ⟨rfl, rfl⟩ 1 rfl (by decide +kernel) ⟨Nat.le_of_ble_eq_true rfl, Nat.le_of_ble_eq_true rfl⟩ nilP (hK.sub (tys' := []) [] rfl) hS hl.1 rfl (Nat.le_of_ble_eq_true rfl) dX0_atom_1 ⟨Nat.zero_le _, Nat.zero_le _⟩ (fun H locs hk1 hS => ?_)
  replace hP := keptP hP hk1
  refine lv_aload_n hx hb dX0_atom_4 rfl (lv_at hl 0 rfl) ?_
  refine puV_V (own := RX0) (As := []) (rest := []) (C := RX0) (ci := 0) (q0 := 0) ⟨hx, hb, hml, hown, hts⟩ (c_X0_requireRoom l D ad cI cZ cJ n kd sd ts fs tr on rp lt ru lg lp (by omega)) gX0_atom_X0_requireRoom rfl ⟨rfl, rfl⟩ 0 rfl (by decide +kernel) ⟨Nat.le_of_ble_eq_true rfl, Nat.le_of_ble_eq_true rfl⟩ hP hK rfl rfl rfl hS hl.1 rfl (Nat.le_of_ble_eq_true rfl) dX0_atom_5 ⟨Nat.zero_le _, Nat.zero_le _⟩ (fun H locs hk1 hS => ?_)
  replace hP := keptP hP hk1
  refine lv_iload_n hx hb dX0_atom_8 rfl (lv_at hl 1 rfl) ?_
  refine puI_S (own := RX0) (As := [.int (nI a)]) (rest := []) ⟨hx, hb, hml, hown, hts⟩ (c_X0_placeOf l D a (by omega)) gX0_atom_X0_placeOf rfl ⟨rfl, rfl⟩ 1 rfl (by decide +kernel) ⟨Nat.le_of_ble_eq_true rfl, Nat.le_of_ble_eq_true rfl⟩ nilP (hK.sub (tys' := []) [] rfl) hS hl.1 rfl (Nat.le_of_ble_eq_true rfl) dX0_atom_9 ⟨Nat.zero_le _, Nat.zero_le _⟩ (fun H locs hk1 hS => ?_)
  replace hP := keptP hP hk1
  refine lv_istore_n (lv' := [(2, .int (nI (2 * (5 - a)))), (0, .ref (ad 0)), (1, .int (nI a))]) hx hb dX0_atom_12 rfl hl (by decide) rfl (fun ls hl => ?_)
  refine lv_aload_n hx hb dX0_atom_13 rfl (lv_at hl 1 rfl) ?_
  refine va_get (D := D) (ci := 0) (v := .int (nI n)) (C := RX0) (T := TX0) (N := 12) hx hb hts hin0 hown hK hP 0 rfl rfl 0 (by decide) (hts (.fieldLink RX0 9 "RumourReasoner" "count" "I") (by decide +kernel)) (fun _ h9 => h9) rfl dX0_atom_14 ?_
  refine puI_S (own := RX0) (As := [.int (nI n)]) (rest := []) ⟨hx, hb, hml, hown, hts⟩ (c_X0_rowOf l D n) gX0_atom_X0_rowOf rfl ⟨rfl, rfl⟩ 1 rfl (by decide +kernel) ⟨Nat.le_of_ble_eq_true rfl, Nat.le_of_ble_eq_true rfl⟩ nilP (hK.sub (tys' := []) [] rfl) hS hl.1 rfl (Nat.le_of_ble_eq_true rfl) dX0_atom_17 ⟨Nat.zero_le _, Nat.zero_le _⟩ (fun H locs hk1 hS => ?_)
  replace hP := keptP hP hk1
  refine lv_istore_n (lv' := [(3, .int (nI (n * 64))), (2, .int (nI (2 * (5 - a)))), (0, .ref (ad 0)), (1, .int (nI a))]) hx hb dX0_atom_20 rfl hl (by decide) rfl (fun ls hl => ?_)
  refine lv_iconst (v := nI 0) hx hb dX0_atom_21 (by decide) ?_
  refine lv_istore (lv' := [(4, .int (nI 0)), (3, .int (nI (n * 64))), (2, .int (nI (2 * (5 - a)))), (0, .ref (ad 0)), (1, .int (nI a))]) hx hb dX0_atom_22 hl (by decide) rfl (fun ls hl => ?_)
  have key1 : ∀ (d3 i2 : Nat), i2 + d3 = 64 → ∀ (H : Heap) (locs : List Loc) (ls : Array Slot), va_P D vwCl (wC ad cI cZ cJ n kd sd (pt ts (n * 64) (fun w => vbL (2 * (5 - a)) w) i2) (pt fs (n * 64) (fun w => vbL (2 * (5 - a) + 1) w) i2) tr on rp lt ru lg lp) H → va_D A (wC ad cI cZ cJ n kd sd (pt ts (n * 64) (fun w => vbL (2 * (5 - a)) w) i2) (pt fs (n * 64) (fun w => vbL (2 * (5 - a) + 1) w) i2) tr on rp lt ru lg lp) → va_S A s.heap H locs → lv_has ls 5 [(4, .int (nI i2)), (3, .int (nI (n * 64))), (2, .int (nI (2 * (5 - a)))), (0, .ref (ad 0)), (1, .int (nI a))] → W p l e rm_X0_atom s m args below meth c H locs 0 0 Q (F0 m 24 ls []) := by
    intro d3
    induction d3 with
    | zero =>
      intro i2 hi_i2 H locs ls hP hD hS hl
      obtain rfl : i2 = 64 := by omega
      refine lv_iload hx hb dX0_atom_24 (lv_at hl 0 rfl) ?_
      refine lv_bipush (v := nI 64) hx hb dX0_atom_26 (by decide) ?_
      refine cT_ge (tgt := 69) hx hb dX0_atom_28 (by decide) (nI_le (by omega) (by omega)) ?_
      refine lv_aload_n hx hb dX0_atom_69 rfl (lv_at hl 3 rfl) ?_
      refine lv_iconst (v := nI 0) hx hb dX0_atom_70 (by decide) ?_
      refine lv_iconst (v := nI 1) hx hb dX0_atom_71 (by decide) ?_
      refine tc_int (y := bI true) (rfl) ?_
      refine muI_V (own := RX0) (As := [.int (nI 0), .int (bI true)]) (rest := []) (C := RX0) (ci := 0) (q0 := 0) (A1 := A) ⟨hx, hb, hml, hown, hts⟩ (c_X0_addFormula l D ad cI cZ cJ n kd sd (pt ts (n * 64) (fun w => vbL (2 * (5 - a)) w) i2) (pt fs (n * 64) (fun w => vbL (2 * (5 - a) + 1) w) i2) tr on rp lt ru lg lp 0 true (by omega)) gX0_atom_X0_addFormula rfl ⟨rfl, rfl⟩ 2 rfl (by decide +kernel) ⟨Nat.le_of_ble_eq_true rfl, Nat.le_of_ble_eq_true rfl⟩ hP hK hD (fun _ h9 => h9) rfl rfl rfl hS hl.1 rfl (Nat.le_of_ble_eq_true rfl) dX0_atom_72 ⟨Nat.zero_le _, Nat.zero_le _⟩ (fun u H locs hP hz1 hk1 hS => ?_)
      replace hP : va_P D vwCl (wC ad cI cZ cJ (n + 1) (va_up kd n 0) (va_up sd n true) (pt ts (n * 64) (fun w => vbL (2 * (5 - a)) w) i2) (pt fs (n * 64) (fun w => vbL (2 * (5 - a) + 1) w) i2) tr on rp lt ru lg lp) H := hP
      replace hD : va_D A (wC ad cI cZ cJ (n + 1) (va_up kd n 0) (va_up sd n true) (pt ts (n * 64) (fun w => vbL (2 * (5 - a)) w) i2) (pt fs (n * 64) (fun w => vbL (2 * (5 - a) + 1) w) i2) tr on rp lt ru lg lp) := sameD rfl hD
      exact kret _ (fun _ => 0) _ _ _ _ (rfl) hP hS dX0_atom_75
    | succ d3 ih_i2 =>
      intro i2 hi_i2 H locs ls hP hD hS hl
      refine lv_iload hx hb dX0_atom_24 (lv_at hl 0 rfl) ?_
      refine lv_bipush (v := nI 64) hx hb dX0_atom_26 (by decide) ?_
      refine cF_ge (tgt := 69) hx hb dX0_atom_28 (by decide) (nI_ge (by omega) (by omega)) ?_
      refine lv_aload_n hx hb dX0_atom_31 rfl (lv_at hl 3 rfl) ?_
      refine va_get (D := D) (ci := 0) (v := .ref (ad 3)) (C := RX0) (T := TX0) (N := 12) hx hb hts hin0 hown hK hP 0 rfl rfl 3 (by decide) (hts (.fieldLink RX0 21 "RumourReasoner" "trueSets" "[J") (by decide +kernel)) (fun _ h9 => h9) rfl dX0_atom_32 ?_
      refine lv_iload_n hx hb dX0_atom_35 rfl (lv_at hl 1 rfl) ?_
      refine lv_iload hx hb dX0_atom_36 (lv_at hl 0 rfl) ?_
      refine lv_iadd hx hb dX0_atom_38 ?_
      refine tc_int (y := nI ((n * 64) + i2)) (nI_add _ _) ?_
      refine lv_iload_n hx hb dX0_atom_39 rfl (lv_at hl 2 rfl) ?_
      refine lv_iload hx hb dX0_atom_40 (lv_at hl 0 rfl) ?_
      refine puL_Se (own := RX0) (As := [.int (nI (2 * (5 - a))), .int (nI i2)]) (rest := [.int (nI ((n * 64) + i2)), .ref (ad 3)]) ⟨hx, hb, hml, hown, hts⟩ (c_X0_valuationsWithBit l D (2 * (5 - a)) i2 (by omega) (by omega)) gX0_atom_X0_valuationsWithBit rfl ⟨rfl, rfl⟩ 2 rfl (by decide +kernel) ⟨Nat.le_of_ble_eq_true rfl, Nat.le_of_ble_eq_true rfl⟩ nilP (hK.sub (tys' := []) [] rfl) ((hTB.kept hS.2.1).narrow (fun _ h9 => h9.elim)) hS hl.1 rfl (Nat.le_of_ble_eq_true rfl) dX0_atom_42 ⟨Nat.zero_le _, Nat.zero_le _⟩ (fun H locs hk1 hS => ?_)
      replace hP := keptP hP hk1
      refine st_nl hx hb hK hP hD hS 3 2 rfl rfl (j := ((n * 64) + i2)) (by omega) (by decide) dX0_atom_45 (fun H locs hP hD hS => ?_)
      replace hP : va_P D vwCl (wC ad cI cZ cJ n kd sd (vp_updL (pt ts (n * 64) (fun w => vbL (2 * (5 - a)) w) i2) ((n * 64) + i2) (vbL (2 * (5 - a)) i2)) (pt fs (n * 64) (fun w => vbL (2 * (5 - a) + 1) w) i2) tr on rp lt ru lg lp) H := by exact hP
      replace hD : va_D A (wC ad cI cZ cJ n kd sd (vp_updL (pt ts (n * 64) (fun w => vbL (2 * (5 - a)) w) i2) ((n * 64) + i2) (vbL (2 * (5 - a)) i2)) (pt fs (n * 64) (fun w => vbL (2 * (5 - a) + 1) w) i2) tr on rp lt ru lg lp) := sameD rfl hD
      refine lv_aload_n hx hb dX0_atom_46 rfl (lv_at hl 3 rfl) ?_
      refine va_get (D := D) (ci := 0) (v := .ref (ad 4)) (C := RX0) (T := TX0) (N := 12) hx hb hts hin0 hown hK hP 0 rfl rfl 4 (by decide) (hts (.fieldLink RX0 25 "RumourReasoner" "falseSets" "[J") (by decide +kernel)) (fun _ h9 => h9) rfl dX0_atom_47 ?_
      refine lv_iload_n hx hb dX0_atom_50 rfl (lv_at hl 1 rfl) ?_
      refine lv_iload hx hb dX0_atom_51 (lv_at hl 0 rfl) ?_
      refine lv_iadd hx hb dX0_atom_53 ?_
      refine tc_int (y := nI ((n * 64) + i2)) (nI_add _ _) ?_
      refine lv_iload_n hx hb dX0_atom_54 rfl (lv_at hl 2 rfl) ?_
      refine lv_iconst (v := nI 1) hx hb dX0_atom_55 (by decide) ?_
      refine lv_iadd hx hb dX0_atom_56 ?_
      refine tc_int (y := nI ((2 * (5 - a)) + 1)) (nI_add _ _) ?_
      refine lv_iload hx hb dX0_atom_57 (lv_at hl 0 rfl) ?_
      refine puL_Se (own := RX0) (As := [.int (nI ((2 * (5 - a)) + 1)), .int (nI i2)]) (rest := [.int (nI ((n * 64) + i2)), .ref (ad 4)]) ⟨hx, hb, hml, hown, hts⟩ (c_X0_valuationsWithBit l D ((2 * (5 - a)) + 1) i2 (by omega) (by omega)) gX0_atom_X0_valuationsWithBit rfl ⟨rfl, rfl⟩ 2 rfl (by decide +kernel) ⟨Nat.le_of_ble_eq_true rfl, Nat.le_of_ble_eq_true rfl⟩ nilP (hK.sub (tys' := []) [] rfl) ((hTB.kept hS.2.1).narrow (fun _ h9 => h9.elim)) hS hl.1 rfl (Nat.le_of_ble_eq_true rfl) dX0_atom_59 ⟨Nat.zero_le _, Nat.zero_le _⟩ (fun H locs hk1 hS => ?_)
      replace hP := keptP hP hk1
      refine st_nl hx hb hK hP hD hS 4 2 rfl rfl (j := ((n * 64) + i2)) (by omega) (by decide) dX0_atom_62 (fun H locs hP hD hS => ?_)
      replace hP : va_P D vwCl (wC ad cI cZ cJ n kd sd (vp_updL (pt ts (n * 64) (fun w => vbL (2 * (5 - a)) w) i2) ((n * 64) + i2) (vbL (2 * (5 - a)) i2)) (vp_updL (pt fs (n * 64) (fun w => vbL (2 * (5 - a) + 1) w) i2) ((n * 64) + i2) (vbL ((2 * (5 - a)) + 1) i2)) tr on rp lt ru lg lp) H := by exact hP
      replace hD : va_D A (wC ad cI cZ cJ n kd sd (vp_updL (pt ts (n * 64) (fun w => vbL (2 * (5 - a)) w) i2) ((n * 64) + i2) (vbL (2 * (5 - a)) i2)) (vp_updL (pt fs (n * 64) (fun w => vbL (2 * (5 - a) + 1) w) i2) ((n * 64) + i2) (vbL ((2 * (5 - a)) + 1) i2)) tr on rp lt ru lg lp) := sameD rfl hD
      refine lv_iinc (v := nI (i2 + 1)) (lv' := [(4, .int (nI (i2 + 1))), (3, .int (nI (n * 64))), (2, .int (nI (2 * (5 - a)))), (0, .ref (ad 0)), (1, .int (nI a))]) hx hb dX0_atom_63 hl (k := 0) rfl (iinc1 _) (by decide) rfl (fun ls hl => ?_)
      refine lv_goto (tgt := 24) hx hb dX0_atom_66 (by decide) ?_
      exact ih_i2 (i2 + 1) (by omega) H locs ls hP hD hS (lv_sub hl [0, 1, 2, 3, 4] rfl)
  exact key1 (64) 0 (by omega) _ _ ls hP hD hS (lv_sub hl [0, 1, 2, 3, 4] rfl)

def cvL (v : Nat) (b : Bool) : Int64 := if told v b = true then -1 else 0
theorem hin_X0_constant : ∀ w ∈ wsX00, w ∈ wsX0_constant := by first | exact fun _ h => List.mem_cons_of_mem _ (List.mem_append_right _ h) | exact fun _ h => List.mem_cons_of_mem _ (List.mem_append_left _ (List.mem_append_right _ h)) | exact fun _ h => List.mem_cons_of_mem _ (List.mem_append_left _ (List.mem_append_left _ (List.mem_append_right _ h))) | exact fun _ h => List.mem_cons_of_mem _ (List.mem_append_left _ (List.mem_append_left _ (List.mem_append_left _ (List.mem_append_right _ h)))) | decide +kernel
def rm_X0_constant : Room := { frames := 1, cells := 0, slots := 0, locals := 23 }
set_option maxHeartbeats 4000000 in
set_option maxRecDepth 100000 in
theorem c_X0_constant (hO : OKC n tr rp lt lg ru) (v : Nat) (hv : v < 4) (hn40 : n < 40) : MuI l yX0_constant wsX0_constant rm_X0_constant D vwCl (wC ad cI cZ cJ n kd sd ts fs tr on rp lt ru lg lp) (fun _ => wC ad cI cZ cJ (n + 1) (va_up kd n 1) (va_up sd n true) (pt ts (n * 64) (fun _ => cvL v true) 64) (pt fs (n * 64) (fun _ => cvL v false) 64) tr on rp lt ru lg lp) (tyC cI cZ cJ) [.ref (ad 0), .int (nI v)] (nI n) := by
  refine MuI.of (cc := cX0_constant) (maxL := 4) (by decide) rfl (Nat.le_of_ble_eq_true rfl) (vp_nar_int _) ?_
  intro A p e s m args below meth c Q ls hx hb hml hown hts hP hK hD kret hl
  have hown : s.vm.findClass RX0 = some m.cls := hown
  have hl : lv_has ls 4 [(0, .ref (ad 0)), (1, .int (nI v))] := hl
  have hS : va_S A s.heap s.heap [] := va_S.rf
  have hin0 : ∀ w ∈ u_ws RX0 TX0 12, w ∈ wsX0_constant := hin_X0_constant
  refine lv_iload_n hx hb dX0_constant_0 rfl (lv_at hl 1 rfl) ?_
  refine puV_S (own := RX0) (As := [.int (nI v)]) (rest := []) ⟨hx, hb, hml, hown, hts⟩ (c_X0_requireValue l D v (by omega)) gX0_constant_X0_requireValue rfl ⟨rfl, rfl⟩ 1 rfl (by decide +kernel) ⟨Nat.le_of_ble_eq_true rfl, Nat.le_of_ble_eq_true rfl⟩ nilP (hK.sub (tys' := []) [] rfl) hS hl.1 rfl (Nat.le_of_ble_eq_true rfl) dX0_constant_1 ⟨Nat.zero_le _, Nat.zero_le _⟩ (fun H locs hk1 hS => ?_)
  replace hP := keptP hP hk1
  refine lv_aload_n hx hb dX0_constant_4 rfl (lv_at hl 0 rfl) ?_
  refine puV_V (own := RX0) (As := []) (rest := []) (C := RX0) (ci := 0) (q0 := 0) ⟨hx, hb, hml, hown, hts⟩ (c_X0_requireRoom l D ad cI cZ cJ n kd sd ts fs tr on rp lt ru lg lp (by omega)) gX0_constant_X0_requireRoom rfl ⟨rfl, rfl⟩ 0 rfl (by decide +kernel) ⟨Nat.le_of_ble_eq_true rfl, Nat.le_of_ble_eq_true rfl⟩ hP hK rfl rfl rfl hS hl.1 rfl (Nat.le_of_ble_eq_true rfl) dX0_constant_5 ⟨Nat.zero_le _, Nat.zero_le _⟩ (fun H locs hk1 hS => ?_)
  replace hP := keptP hP hk1
  refine lv_aload_n hx hb dX0_constant_8 rfl (lv_at hl 0 rfl) ?_
  refine va_get (D := D) (ci := 0) (v := .int (nI n)) (C := RX0) (T := TX0) (N := 12) hx hb hts hin0 hown hK hP 0 rfl rfl 0 (by decide) (hts (.fieldLink RX0 9 "RumourReasoner" "count" "I") (by decide +kernel)) (fun _ h9 => h9) rfl dX0_constant_9 ?_
  refine puI_S (own := RX0) (As := [.int (nI n)]) (rest := []) ⟨hx, hb, hml, hown, hts⟩ (c_X0_rowOf l D n) gX0_constant_X0_rowOf rfl ⟨rfl, rfl⟩ 1 rfl (by decide +kernel) ⟨Nat.le_of_ble_eq_true rfl, Nat.le_of_ble_eq_true rfl⟩ nilP (hK.sub (tys' := []) [] rfl) hS hl.1 rfl (Nat.le_of_ble_eq_true rfl) dX0_constant_12 ⟨Nat.zero_le _, Nat.zero_le _⟩ (fun H locs hk1 hS => ?_)
  replace hP := keptP hP hk1
  refine lv_istore_n (lv' := [(2, .int (nI (n * 64))), (0, .ref (ad 0)), (1, .int (nI v))]) hx hb dX0_constant_15 rfl hl (by decide) rfl (fun ls hl => ?_)
  refine lv_iconst (v := nI 0) hx hb dX0_constant_16 (by decide) ?_
  refine lv_istore_n (lv' := [(3, .int (nI 0)), (2, .int (nI (n * 64))), (0, .ref (ad 0)), (1, .int (nI v))]) hx hb dX0_constant_17 rfl hl (by decide) rfl (fun ls hl => ?_)
  have key1 : ∀ (d3 i2 : Nat), i2 + d3 = 64 → ∀ (H : Heap) (locs : List Loc) (ls : Array Slot), va_P D vwCl (wC ad cI cZ cJ n kd sd (pt ts (n * 64) (fun _ => cvL v true) i2) (pt fs (n * 64) (fun _ => cvL v false) i2) tr on rp lt ru lg lp) H → va_D A (wC ad cI cZ cJ n kd sd (pt ts (n * 64) (fun _ => cvL v true) i2) (pt fs (n * 64) (fun _ => cvL v false) i2) tr on rp lt ru lg lp) → va_S A s.heap H locs → lv_has ls 4 [(3, .int (nI i2)), (2, .int (nI (n * 64))), (0, .ref (ad 0)), (1, .int (nI v))] → W p l e rm_X0_constant s m args below meth c H locs 0 0 Q (F0 m 18 ls []) := by
    intro d3
    induction d3 with
    | zero =>
      intro i2 hi_i2 H locs ls hP hD hS hl
      obtain rfl : i2 = 64 := by omega
      refine lv_iload_n hx hb dX0_constant_18 rfl (lv_at hl 0 rfl) ?_
      refine lv_bipush (v := nI 64) hx hb dX0_constant_19 (by decide) ?_
      refine cT_ge (tgt := 72) hx hb dX0_constant_21 (by decide) (nI_le (by omega) (by omega)) ?_
      refine lv_aload_n hx hb dX0_constant_72 rfl (lv_at hl 2 rfl) ?_
      refine lv_iconst (v := nI 1) hx hb dX0_constant_73 (by decide) ?_
      refine lv_iconst (v := nI 1) hx hb dX0_constant_74 (by decide) ?_
      refine tc_int (y := bI true) (rfl) ?_
      refine muI_V (own := RX0) (As := [.int (nI 1), .int (bI true)]) (rest := []) (C := RX0) (ci := 0) (q0 := 0) (A1 := A) ⟨hx, hb, hml, hown, hts⟩ (c_X0_addFormula l D ad cI cZ cJ n kd sd (pt ts (n * 64) (fun _ => cvL v true) i2) (pt fs (n * 64) (fun _ => cvL v false) i2) tr on rp lt ru lg lp 1 true (by omega)) gX0_constant_X0_addFormula rfl ⟨rfl, rfl⟩ 2 rfl (by decide +kernel) ⟨Nat.le_of_ble_eq_true rfl, Nat.le_of_ble_eq_true rfl⟩ hP hK hD (fun _ h9 => h9) rfl rfl rfl hS hl.1 rfl (Nat.le_of_ble_eq_true rfl) dX0_constant_75 ⟨Nat.zero_le _, Nat.zero_le _⟩ (fun u H locs hP hz1 hk1 hS => ?_)
      replace hP : va_P D vwCl (wC ad cI cZ cJ (n + 1) (va_up kd n 1) (va_up sd n true) (pt ts (n * 64) (fun _ => cvL v true) i2) (pt fs (n * 64) (fun _ => cvL v false) i2) tr on rp lt ru lg lp) H := hP
      replace hD : va_D A (wC ad cI cZ cJ (n + 1) (va_up kd n 1) (va_up sd n true) (pt ts (n * 64) (fun _ => cvL v true) i2) (pt fs (n * 64) (fun _ => cvL v false) i2) tr on rp lt ru lg lp) := sameD rfl hD
      exact kret _ (fun _ => 0) _ _ _ _ (rfl) hP hS dX0_constant_78
    | succ d3 ih_i2 =>
      intro i2 hi_i2 H locs ls hP hD hS hl
      refine lv_iload_n hx hb dX0_constant_18 rfl (lv_at hl 0 rfl) ?_
      refine lv_bipush (v := nI 64) hx hb dX0_constant_19 (by decide) ?_
      refine cF_ge (tgt := 72) hx hb dX0_constant_21 (by decide) (nI_ge (by omega) (by omega)) ?_
      refine lv_aload_n hx hb dX0_constant_24 rfl (lv_at hl 2 rfl) ?_
      refine va_get (D := D) (ci := 0) (v := .ref (ad 3)) (C := RX0) (T := TX0) (N := 12) hx hb hts hin0 hown hK hP 0 rfl rfl 3 (by decide) (hts (.fieldLink RX0 21 "RumourReasoner" "trueSets" "[J") (by decide +kernel)) (fun _ h9 => h9) rfl dX0_constant_25 ?_
      refine lv_iload_n hx hb dX0_constant_28 rfl (lv_at hl 1 rfl) ?_
      refine lv_iload_n hx hb dX0_constant_29 rfl (lv_at hl 0 rfl) ?_
      refine lv_iadd hx hb dX0_constant_30 ?_
      refine tc_int (y := nI ((n * 64) + i2)) (nI_add _ _) ?_
      refine lv_iload_n hx hb dX0_constant_31 rfl (lv_at hl 3 rfl) ?_
      refine lv_iconst (v := nI 1) hx hb dX0_constant_32 (by decide) ?_
      refine lv_iand hx hb dX0_constant_33 ?_
      refine tc_int (y := nI (v % 2)) (told_1 hv) ?_
      refine lv_if_eq (tgt := 43) hx hb dX0_constant_34 (by decide) (fun c_4 => ?_) (fun c_4 => ?_)
      · have e_34 := (told_t hv).mp c_4
        refine lv_lconst (v := 0) hx hb dX0_constant_43 (by decide) ?_
        refine tc_long (y := cvL v true) (by unfold cvL; rw [if_neg (by rw [e_34]; decide)]) ?_
        refine st_nl hx hb hK hP hD hS 3 2 rfl rfl (j := ((n * 64) + i2)) (by omega) (by decide) dX0_constant_44 (fun H locs hP hD hS => ?_)
        replace hP : va_P D vwCl (wC ad cI cZ cJ n kd sd (vp_updL (pt ts (n * 64) (fun _ => cvL v true) i2) ((n * 64) + i2) (cvL v true)) (pt fs (n * 64) (fun _ => cvL v false) i2) tr on rp lt ru lg lp) H := by exact hP
        replace hD : va_D A (wC ad cI cZ cJ n kd sd (vp_updL (pt ts (n * 64) (fun _ => cvL v true) i2) ((n * 64) + i2) (cvL v true)) (pt fs (n * 64) (fun _ => cvL v false) i2) tr on rp lt ru lg lp) := sameD rfl hD
        refine lv_aload_n hx hb dX0_constant_45 rfl (lv_at hl 2 rfl) ?_
        refine va_get (D := D) (ci := 0) (v := .ref (ad 4)) (C := RX0) (T := TX0) (N := 12) hx hb hts hin0 hown hK hP 0 rfl rfl 4 (by decide) (hts (.fieldLink RX0 25 "RumourReasoner" "falseSets" "[J") (by decide +kernel)) (fun _ h9 => h9) rfl dX0_constant_46 ?_
        refine lv_iload_n hx hb dX0_constant_49 rfl (lv_at hl 1 rfl) ?_
        refine lv_iload_n hx hb dX0_constant_50 rfl (lv_at hl 0 rfl) ?_
        refine lv_iadd hx hb dX0_constant_51 ?_
        refine tc_int (y := nI ((n * 64) + i2)) (nI_add _ _) ?_
        refine lv_iload_n hx hb dX0_constant_52 rfl (lv_at hl 3 rfl) ?_
        refine lv_iconst (v := nI 2) hx hb dX0_constant_53 (by decide) ?_
        refine lv_iand hx hb dX0_constant_54 ?_
        refine tc_int (y := nI (2 * (v / 2 % 2))) (told_2 hv) ?_
        refine lv_if_eq (tgt := 64) hx hb dX0_constant_55 (by decide) (fun c_5 => ?_) (fun c_5 => ?_)
        · have e_55 := (told_f hv).mp c_5
          refine lv_lconst (v := 0) hx hb dX0_constant_64 (by decide) ?_
          refine tc_long (y := cvL v false) (by unfold cvL; rw [if_neg (by rw [e_55]; decide)]) ?_
          refine st_nl hx hb hK hP hD hS 4 2 rfl rfl (j := ((n * 64) + i2)) (by omega) (by decide) dX0_constant_65 (fun H locs hP hD hS => ?_)
          replace hP : va_P D vwCl (wC ad cI cZ cJ n kd sd (vp_updL (pt ts (n * 64) (fun _ => cvL v true) i2) ((n * 64) + i2) (cvL v true)) (vp_updL (pt fs (n * 64) (fun _ => cvL v false) i2) ((n * 64) + i2) (cvL v false)) tr on rp lt ru lg lp) H := by exact hP
          replace hD : va_D A (wC ad cI cZ cJ n kd sd (vp_updL (pt ts (n * 64) (fun _ => cvL v true) i2) ((n * 64) + i2) (cvL v true)) (vp_updL (pt fs (n * 64) (fun _ => cvL v false) i2) ((n * 64) + i2) (cvL v false)) tr on rp lt ru lg lp) := sameD rfl hD
          refine lv_iinc (v := nI (i2 + 1)) (lv' := [(3, .int (nI (i2 + 1))), (2, .int (nI (n * 64))), (0, .ref (ad 0)), (1, .int (nI v))]) hx hb dX0_constant_66 hl (k := 0) rfl (iinc1 _) (by decide) rfl (fun ls hl => ?_)
          refine lv_goto (tgt := 18) hx hb dX0_constant_69 (by decide) ?_
          exact ih_i2 (i2 + 1) (by omega) H locs ls hP hD hS (lv_sub hl [0, 1, 2, 3] rfl)
        · have e_55 : told v false = true := ts_nf (fun q => c_5 ((told_f hv).mpr q))
          refine lv_ldc2 (v := (-1)) hx hb hown (hts (.constantLong RX0 46 (-1)) (by decide +kernel)) dX0_constant_58 ?_
          refine tc_long (y := cvL v false) (by unfold cvL; rw [if_pos e_55]) ?_
          refine lv_goto (tgt := 65) hx hb dX0_constant_61 (by decide) ?_
          refine st_nl hx hb hK hP hD hS 4 2 rfl rfl (j := ((n * 64) + i2)) (by omega) (by decide) dX0_constant_65 (fun H locs hP hD hS => ?_)
          replace hP : va_P D vwCl (wC ad cI cZ cJ n kd sd (vp_updL (pt ts (n * 64) (fun _ => cvL v true) i2) ((n * 64) + i2) (cvL v true)) (vp_updL (pt fs (n * 64) (fun _ => cvL v false) i2) ((n * 64) + i2) (cvL v false)) tr on rp lt ru lg lp) H := by exact hP
          replace hD : va_D A (wC ad cI cZ cJ n kd sd (vp_updL (pt ts (n * 64) (fun _ => cvL v true) i2) ((n * 64) + i2) (cvL v true)) (vp_updL (pt fs (n * 64) (fun _ => cvL v false) i2) ((n * 64) + i2) (cvL v false)) tr on rp lt ru lg lp) := sameD rfl hD
          refine lv_iinc (v := nI (i2 + 1)) (lv' := [(3, .int (nI (i2 + 1))), (2, .int (nI (n * 64))), (0, .ref (ad 0)), (1, .int (nI v))]) hx hb dX0_constant_66 hl (k := 0) rfl (iinc1 _) (by decide) rfl (fun ls hl => ?_)
          refine lv_goto (tgt := 18) hx hb dX0_constant_69 (by decide) ?_
          exact ih_i2 (i2 + 1) (by omega) H locs ls hP hD hS (lv_sub hl [0, 1, 2, 3] rfl)
      · have e_34 : told v true = true := ts_nf (fun q => c_4 ((told_t hv).mpr q))
        refine lv_ldc2 (v := (-1)) hx hb hown (hts (.constantLong RX0 46 (-1)) (by decide +kernel)) dX0_constant_37 ?_
        refine tc_long (y := cvL v true) (by unfold cvL; rw [if_pos e_34]) ?_
        refine lv_goto (tgt := 44) hx hb dX0_constant_40 (by decide) ?_
        refine st_nl hx hb hK hP hD hS 3 2 rfl rfl (j := ((n * 64) + i2)) (by omega) (by decide) dX0_constant_44 (fun H locs hP hD hS => ?_)
        replace hP : va_P D vwCl (wC ad cI cZ cJ n kd sd (vp_updL (pt ts (n * 64) (fun _ => cvL v true) i2) ((n * 64) + i2) (cvL v true)) (pt fs (n * 64) (fun _ => cvL v false) i2) tr on rp lt ru lg lp) H := by exact hP
        replace hD : va_D A (wC ad cI cZ cJ n kd sd (vp_updL (pt ts (n * 64) (fun _ => cvL v true) i2) ((n * 64) + i2) (cvL v true)) (pt fs (n * 64) (fun _ => cvL v false) i2) tr on rp lt ru lg lp) := sameD rfl hD
        refine lv_aload_n hx hb dX0_constant_45 rfl (lv_at hl 2 rfl) ?_
        refine va_get (D := D) (ci := 0) (v := .ref (ad 4)) (C := RX0) (T := TX0) (N := 12) hx hb hts hin0 hown hK hP 0 rfl rfl 4 (by decide) (hts (.fieldLink RX0 25 "RumourReasoner" "falseSets" "[J") (by decide +kernel)) (fun _ h9 => h9) rfl dX0_constant_46 ?_
        refine lv_iload_n hx hb dX0_constant_49 rfl (lv_at hl 1 rfl) ?_
        refine lv_iload_n hx hb dX0_constant_50 rfl (lv_at hl 0 rfl) ?_
        refine lv_iadd hx hb dX0_constant_51 ?_
        refine tc_int (y := nI ((n * 64) + i2)) (nI_add _ _) ?_
        refine lv_iload_n hx hb dX0_constant_52 rfl (lv_at hl 3 rfl) ?_
        refine lv_iconst (v := nI 2) hx hb dX0_constant_53 (by decide) ?_
        refine lv_iand hx hb dX0_constant_54 ?_
        refine tc_int (y := nI (2 * (v / 2 % 2))) (told_2 hv) ?_
        refine lv_if_eq (tgt := 64) hx hb dX0_constant_55 (by decide) (fun c_6 => ?_) (fun c_6 => ?_)
        · have e_55 := (told_f hv).mp c_6
          refine lv_lconst (v := 0) hx hb dX0_constant_64 (by decide) ?_
          refine tc_long (y := cvL v false) (by unfold cvL; rw [if_neg (by rw [e_55]; decide)]) ?_
          refine st_nl hx hb hK hP hD hS 4 2 rfl rfl (j := ((n * 64) + i2)) (by omega) (by decide) dX0_constant_65 (fun H locs hP hD hS => ?_)
          replace hP : va_P D vwCl (wC ad cI cZ cJ n kd sd (vp_updL (pt ts (n * 64) (fun _ => cvL v true) i2) ((n * 64) + i2) (cvL v true)) (vp_updL (pt fs (n * 64) (fun _ => cvL v false) i2) ((n * 64) + i2) (cvL v false)) tr on rp lt ru lg lp) H := by exact hP
          replace hD : va_D A (wC ad cI cZ cJ n kd sd (vp_updL (pt ts (n * 64) (fun _ => cvL v true) i2) ((n * 64) + i2) (cvL v true)) (vp_updL (pt fs (n * 64) (fun _ => cvL v false) i2) ((n * 64) + i2) (cvL v false)) tr on rp lt ru lg lp) := sameD rfl hD
          refine lv_iinc (v := nI (i2 + 1)) (lv' := [(3, .int (nI (i2 + 1))), (2, .int (nI (n * 64))), (0, .ref (ad 0)), (1, .int (nI v))]) hx hb dX0_constant_66 hl (k := 0) rfl (iinc1 _) (by decide) rfl (fun ls hl => ?_)
          refine lv_goto (tgt := 18) hx hb dX0_constant_69 (by decide) ?_
          exact ih_i2 (i2 + 1) (by omega) H locs ls hP hD hS (lv_sub hl [0, 1, 2, 3] rfl)
        · have e_55 : told v false = true := ts_nf (fun q => c_6 ((told_f hv).mpr q))
          refine lv_ldc2 (v := (-1)) hx hb hown (hts (.constantLong RX0 46 (-1)) (by decide +kernel)) dX0_constant_58 ?_
          refine tc_long (y := cvL v false) (by unfold cvL; rw [if_pos e_55]) ?_
          refine lv_goto (tgt := 65) hx hb dX0_constant_61 (by decide) ?_
          refine st_nl hx hb hK hP hD hS 4 2 rfl rfl (j := ((n * 64) + i2)) (by omega) (by decide) dX0_constant_65 (fun H locs hP hD hS => ?_)
          replace hP : va_P D vwCl (wC ad cI cZ cJ n kd sd (vp_updL (pt ts (n * 64) (fun _ => cvL v true) i2) ((n * 64) + i2) (cvL v true)) (vp_updL (pt fs (n * 64) (fun _ => cvL v false) i2) ((n * 64) + i2) (cvL v false)) tr on rp lt ru lg lp) H := by exact hP
          replace hD : va_D A (wC ad cI cZ cJ n kd sd (vp_updL (pt ts (n * 64) (fun _ => cvL v true) i2) ((n * 64) + i2) (cvL v true)) (vp_updL (pt fs (n * 64) (fun _ => cvL v false) i2) ((n * 64) + i2) (cvL v false)) tr on rp lt ru lg lp) := sameD rfl hD
          refine lv_iinc (v := nI (i2 + 1)) (lv' := [(3, .int (nI (i2 + 1))), (2, .int (nI (n * 64))), (0, .ref (ad 0)), (1, .int (nI v))]) hx hb dX0_constant_66 hl (k := 0) rfl (iinc1 _) (by decide) rfl (fun ls hl => ?_)
          refine lv_goto (tgt := 18) hx hb dX0_constant_69 (by decide) ?_
          exact ih_i2 (i2 + 1) (by omega) H locs ls hP hD hS (lv_sub hl [0, 1, 2, 3] rfl)
  exact key1 (64) 0 (by omega) _ _ ls hP hD hS (lv_sub hl [0, 1, 2, 3] rfl)

theorem hin_X0_turn : ∀ w ∈ wsX00, w ∈ wsX0_turn := by first | exact fun _ h => List.mem_cons_of_mem _ (List.mem_append_right _ h) | exact fun _ h => List.mem_cons_of_mem _ (List.mem_append_left _ (List.mem_append_right _ h)) | exact fun _ h => List.mem_cons_of_mem _ (List.mem_append_left _ (List.mem_append_left _ (List.mem_append_right _ h))) | exact fun _ h => List.mem_cons_of_mem _ (List.mem_append_left _ (List.mem_append_left _ (List.mem_append_left _ (List.mem_append_right _ h)))) | decide +kernel
def rm_X0_turn : Room := { frames := 1, cells := 0, slots := 0, locals := 23 }
set_option maxHeartbeats 4000000 in
set_option maxRecDepth 100000 in
theorem c_X0_turn_2 (hO : OKC n tr rp lt lg ru) (a : Nat) (ha : a < n) (hn40 : n < 40) : MuI l yX0_turn wsX0_turn rm_X0_turn D vwCl (wC ad cI cZ cJ n kd sd ts fs tr on rp lt ru lg lp) (fun _ => wC ad cI cZ cJ (n + 1) (va_up kd n 2) (va_up sd n (sd a)) (pt ts (n * 64) (fun w => fs (a * 64 + w)) 64) (pt fs (n * 64) (fun w => ts (a * 64 + w)) 64) tr on rp lt ru lg lp) (tyC cI cZ cJ) [.ref (ad 0), .int (nI 2), .int (nI a)] (nI n) := by
  refine MuI.of (cc := cX0_turn) (maxL := 10) (by decide) rfl (Nat.le_of_ble_eq_true rfl) (vp_nar_int _) ?_
  intro A p e s m args below meth c Q ls hx hb hml hown hts hP hK hD kret hl
  have hown : s.vm.findClass RX0 = some m.cls := hown
  have hl : lv_has ls 10 [(0, .ref (ad 0)), (1, .int (nI 2)), (2, .int (nI a))] := hl
  have hS : va_S A s.heap s.heap [] := va_S.rf
  have hin0 : ∀ w ∈ u_ws RX0 TX0 12, w ∈ wsX0_turn := hin_X0_turn
  refine lv_aload_n hx hb dX0_turn_0 rfl (lv_at hl 0 rfl) ?_
  refine lv_iload_n hx hb dX0_turn_1 rfl (lv_at hl 2 rfl) ?_
  refine puV_V (own := RX0) (As := [.int (nI a)]) (rest := []) (C := RX0) (ci := 0) (q0 := 0) ⟨hx, hb, hml, hown, hts⟩ (c_X0_requireFormula l D ad cI cZ cJ n kd sd ts fs tr on rp lt ru lg lp hO a (by omega)) gX0_turn_X0_requireFormula rfl ⟨rfl, rfl⟩ 1 rfl (by decide +kernel) ⟨Nat.le_of_ble_eq_true rfl, Nat.le_of_ble_eq_true rfl⟩ hP hK rfl rfl rfl hS hl.1 rfl (Nat.le_of_ble_eq_true rfl) dX0_turn_2 ⟨Nat.zero_le _, Nat.zero_le _⟩ (fun H locs hk1 hS => ?_)
  replace hP := keptP hP hk1
  refine lv_iload_n hx hb dX0_turn_5 rfl (lv_at hl 1 rfl) ?_
  refine lv_iconst (v := nI 2) hx hb dX0_turn_6 (by decide) ?_
  refine cT_eq (tgt := 26) hx hb dX0_turn_7 (by decide) (rfl) ?_
  refine lv_aload_n hx hb dX0_turn_26 rfl (lv_at hl 0 rfl) ?_
  refine puV_V (own := RX0) (As := []) (rest := []) (C := RX0) (ci := 0) (q0 := 0) ⟨hx, hb, hml, hown, hts⟩ (c_X0_requireRoom l D ad cI cZ cJ n kd sd ts fs tr on rp lt ru lg lp (by omega)) gX0_turn_X0_requireRoom rfl ⟨rfl, rfl⟩ 0 rfl (by decide +kernel) ⟨Nat.le_of_ble_eq_true rfl, Nat.le_of_ble_eq_true rfl⟩ hP hK rfl rfl rfl hS hl.1 rfl (Nat.le_of_ble_eq_true rfl) dX0_turn_27 ⟨Nat.zero_le _, Nat.zero_le _⟩ (fun H locs hk1 hS => ?_)
  replace hP := keptP hP hk1
  refine lv_aload_n hx hb dX0_turn_30 rfl (lv_at hl 0 rfl) ?_
  refine va_get (D := D) (ci := 0) (v := .int (nI n)) (C := RX0) (T := TX0) (N := 12) hx hb hts hin0 hown hK hP 0 rfl rfl 0 (by decide) (hts (.fieldLink RX0 9 "RumourReasoner" "count" "I") (by decide +kernel)) (fun _ h9 => h9) rfl dX0_turn_31 ?_
  refine puI_S (own := RX0) (As := [.int (nI n)]) (rest := []) ⟨hx, hb, hml, hown, hts⟩ (c_X0_rowOf l D n) gX0_turn_X0_rowOf rfl ⟨rfl, rfl⟩ 1 rfl (by decide +kernel) ⟨Nat.le_of_ble_eq_true rfl, Nat.le_of_ble_eq_true rfl⟩ nilP (hK.sub (tys' := []) [] rfl) hS hl.1 rfl (Nat.le_of_ble_eq_true rfl) dX0_turn_34 ⟨Nat.zero_le _, Nat.zero_le _⟩ (fun H locs hk1 hS => ?_)
  replace hP := keptP hP hk1
  refine lv_istore_n (lv' := [(3, .int (nI (n * 64))), (0, .ref (ad 0)), (1, .int (nI 2)), (2, .int (nI a))]) hx hb dX0_turn_37 rfl hl (by decide) rfl (fun ls hl => ?_)
  refine lv_iload_n hx hb dX0_turn_38 rfl (lv_at hl 3 rfl) ?_
  refine puI_S (own := RX0) (As := [.int (nI a)]) (rest := []) ⟨hx, hb, hml, hown, hts⟩ (c_X0_rowOf l D a) gX0_turn_X0_rowOf rfl ⟨rfl, rfl⟩ 1 rfl (by decide +kernel) ⟨Nat.le_of_ble_eq_true rfl, Nat.le_of_ble_eq_true rfl⟩ nilP (hK.sub (tys' := []) [] rfl) hS hl.1 rfl (Nat.le_of_ble_eq_true rfl) dX0_turn_39 ⟨Nat.zero_le _, Nat.zero_le _⟩ (fun H locs hk1 hS => ?_)
  replace hP := keptP hP hk1
  refine lv_istore (lv' := [(4, .int (nI (a * 64))), (3, .int (nI (n * 64))), (0, .ref (ad 0)), (1, .int (nI 2)), (2, .int (nI a))]) hx hb dX0_turn_42 hl (by decide) rfl (fun ls hl => ?_)
  refine lv_iconst (v := nI 0) hx hb dX0_turn_44 (by decide) ?_
  refine lv_istore (lv' := [(5, .int (nI 0)), (4, .int (nI (a * 64))), (3, .int (nI (n * 64))), (0, .ref (ad 0)), (1, .int (nI 2)), (2, .int (nI a))]) hx hb dX0_turn_45 hl (by decide) rfl (fun ls hl => ?_)
  have key1 : ∀ (d3 i2 : Nat), i2 + d3 = 64 → ∀ (H : Heap) (locs : List Loc) (ls : Array Slot), va_P D vwCl (wC ad cI cZ cJ n kd sd (pt ts (n * 64) (fun w => fs (a * 64 + w)) i2) (pt fs (n * 64) (fun w => ts (a * 64 + w)) i2) tr on rp lt ru lg lp) H → va_D A (wC ad cI cZ cJ n kd sd (pt ts (n * 64) (fun w => fs (a * 64 + w)) i2) (pt fs (n * 64) (fun w => ts (a * 64 + w)) i2) tr on rp lt ru lg lp) → va_S A s.heap H locs → lv_has ls 10 [(5, .int (nI i2)), (4, .int (nI (a * 64))), (3, .int (nI (n * 64))), (0, .ref (ad 0)), (1, .int (nI 2)), (2, .int (nI a))] → W p l e rm_X0_turn s m args below meth c H locs 0 0 Q (F0 m 47 ls []) := by
    intro d3
    induction d3 with
    | zero =>
      intro i2 hi_i2 H locs ls hP hD hS hl
      obtain rfl : i2 = 64 := by omega
      refine lv_iload hx hb dX0_turn_47 (lv_at hl 0 rfl) ?_
      refine lv_bipush (v := nI 64) hx hb dX0_turn_49 (by decide) ?_
      refine cT_ge (tgt := 134) hx hb dX0_turn_51 (by decide) (nI_le (by omega) (by omega)) ?_
      refine lv_aload_n hx hb dX0_turn_134 rfl (lv_at hl 3 rfl) ?_
      refine lv_iload_n hx hb dX0_turn_135 rfl (lv_at hl 4 rfl) ?_
      refine lv_iload_n hx hb dX0_turn_136 rfl (lv_at hl 4 rfl) ?_
      refine lv_iconst (v := nI 2) hx hb dX0_turn_137 (by decide) ?_
      refine cF_ne (tgt := 154) hx hb dX0_turn_138 (by decide) (fun q => q rfl) ?_
      refine lv_aload_n hx hb dX0_turn_141 rfl (lv_at hl 3 rfl) ?_
      refine va_get (D := D) (ci := 0) (v := .ref (ad 2)) (C := RX0) (T := TX0) (N := 12) hx hb hts hin0 hown hK hP 0 rfl rfl 2 (by decide) (hts (.fieldLink RX0 17 "RumourReasoner" "steady" "[Z") (by decide +kernel)) (fun _ h9 => h9) rfl dX0_turn_142 ?_
      refine lv_iload_n hx hb dX0_turn_145 rfl (lv_at hl 5 rfl) ?_
      refine ld_nz hx hb hK hP 2 1 rfl rfl (j := a) (by omega) (by decide) dX0_turn_146 ?_
      refine lv_if_eq (tgt := 154) hx hb dX0_turn_147 (by decide) (fun c_4 => ?_) (fun c_4 => ?_)
      · have e_147 := bI_0 c_4
        refine lv_iconst (v := nI 0) hx hb dX0_turn_154 (by decide) ?_
        refine tc_int (y := bI (sd a)) (by rw [e_147]; rfl) ?_
        refine muI_V (own := RX0) (As := [.int (nI 2), .int (bI (sd a))]) (rest := []) (C := RX0) (ci := 0) (q0 := 0) (A1 := A) ⟨hx, hb, hml, hown, hts⟩ (c_X0_addFormula l D ad cI cZ cJ n kd sd (pt ts (n * 64) (fun w => fs (a * 64 + w)) i2) (pt fs (n * 64) (fun w => ts (a * 64 + w)) i2) tr on rp lt ru lg lp 2 (sd a) (by omega)) gX0_turn_X0_addFormula rfl ⟨rfl, rfl⟩ 2 rfl (by decide +kernel) ⟨Nat.le_of_ble_eq_true rfl, Nat.le_of_ble_eq_true rfl⟩ hP hK hD (fun _ h9 => h9) rfl rfl rfl hS hl.1 rfl (Nat.le_of_ble_eq_true rfl) dX0_turn_155 ⟨Nat.zero_le _, Nat.zero_le _⟩ (fun u H locs hP hz1 hk1 hS => ?_)
        replace hP : va_P D vwCl (wC ad cI cZ cJ (n + 1) (va_up kd n 2) (va_up sd n (sd a)) (pt ts (n * 64) (fun w => fs (a * 64 + w)) i2) (pt fs (n * 64) (fun w => ts (a * 64 + w)) i2) tr on rp lt ru lg lp) H := hP
        replace hD : va_D A (wC ad cI cZ cJ (n + 1) (va_up kd n 2) (va_up sd n (sd a)) (pt ts (n * 64) (fun w => fs (a * 64 + w)) i2) (pt fs (n * 64) (fun w => ts (a * 64 + w)) i2) tr on rp lt ru lg lp) := sameD rfl hD
        exact kret _ (fun _ => 0) _ _ _ _ (rfl) hP hS dX0_turn_158
      · have e_147 := bI_1 c_4
        refine lv_iconst (v := nI 1) hx hb dX0_turn_150 (by decide) ?_
        refine tc_int (y := bI (sd a)) (by rw [e_147]; rfl) ?_
        refine lv_goto (tgt := 155) hx hb dX0_turn_151 (by decide) ?_
        refine muI_V (own := RX0) (As := [.int (nI 2), .int (bI (sd a))]) (rest := []) (C := RX0) (ci := 0) (q0 := 0) (A1 := A) ⟨hx, hb, hml, hown, hts⟩ (c_X0_addFormula l D ad cI cZ cJ n kd sd (pt ts (n * 64) (fun w => fs (a * 64 + w)) i2) (pt fs (n * 64) (fun w => ts (a * 64 + w)) i2) tr on rp lt ru lg lp 2 (sd a) (by omega)) gX0_turn_X0_addFormula rfl ⟨rfl, rfl⟩ 2 rfl (by decide +kernel) ⟨Nat.le_of_ble_eq_true rfl, Nat.le_of_ble_eq_true rfl⟩ hP hK hD (fun _ h9 => h9) rfl rfl rfl hS hl.1 rfl (Nat.le_of_ble_eq_true rfl) dX0_turn_155 ⟨Nat.zero_le _, Nat.zero_le _⟩ (fun u H locs hP hz1 hk1 hS => ?_)
        replace hP : va_P D vwCl (wC ad cI cZ cJ (n + 1) (va_up kd n 2) (va_up sd n (sd a)) (pt ts (n * 64) (fun w => fs (a * 64 + w)) i2) (pt fs (n * 64) (fun w => ts (a * 64 + w)) i2) tr on rp lt ru lg lp) H := hP
        replace hD : va_D A (wC ad cI cZ cJ (n + 1) (va_up kd n 2) (va_up sd n (sd a)) (pt ts (n * 64) (fun w => fs (a * 64 + w)) i2) (pt fs (n * 64) (fun w => ts (a * 64 + w)) i2) tr on rp lt ru lg lp) := sameD rfl hD
        exact kret _ (fun _ => 0) _ _ _ _ (rfl) hP hS dX0_turn_158
    | succ d3 ih_i2 =>
      intro i2 hi_i2 H locs ls hP hD hS hl
      refine lv_iload hx hb dX0_turn_47 (lv_at hl 0 rfl) ?_
      refine lv_bipush (v := nI 64) hx hb dX0_turn_49 (by decide) ?_
      refine cF_ge (tgt := 134) hx hb dX0_turn_51 (by decide) (nI_ge (by omega) (by omega)) ?_
      refine lv_aload_n hx hb dX0_turn_54 rfl (lv_at hl 3 rfl) ?_
      refine va_get (D := D) (ci := 0) (v := .ref (ad 3)) (C := RX0) (T := TX0) (N := 12) hx hb hts hin0 hown hK hP 0 rfl rfl 3 (by decide) (hts (.fieldLink RX0 21 "RumourReasoner" "trueSets" "[J") (by decide +kernel)) (fun _ h9 => h9) rfl dX0_turn_55 ?_
      refine lv_iload hx hb dX0_turn_58 (lv_at hl 1 rfl) ?_
      refine lv_iload hx hb dX0_turn_60 (lv_at hl 0 rfl) ?_
      refine lv_iadd hx hb dX0_turn_62 ?_
      refine tc_int (y := nI ((a * 64) + i2)) (nI_add _ _) ?_
      refine ld_nl hx hb hK hP 3 2 rfl rfl (j := ((a * 64) + i2)) (by omega) (by decide) dX0_turn_63 ?_
      refine tc_long (y := ts (a * 64 + i2)) (pt_out (Or.inl (by omega))) ?_
      refine lv_lstore (lv' := [(6, .long (ts (a * 64 + i2))), (5, .int (nI i2)), (4, .int (nI (a * 64))), (3, .int (nI (n * 64))), (0, .ref (ad 0)), (1, .int (nI 2)), (2, .int (nI a))]) hx hb dX0_turn_64 hl (by decide) rfl (fun ls hl => ?_)
      refine lv_aload_n hx hb dX0_turn_66 rfl (lv_at hl 4 rfl) ?_
      refine va_get (D := D) (ci := 0) (v := .ref (ad 4)) (C := RX0) (T := TX0) (N := 12) hx hb hts hin0 hown hK hP 0 rfl rfl 4 (by decide) (hts (.fieldLink RX0 25 "RumourReasoner" "falseSets" "[J") (by decide +kernel)) (fun _ h9 => h9) rfl dX0_turn_67 ?_
      refine lv_iload hx hb dX0_turn_70 (lv_at hl 2 rfl) ?_
      refine lv_iload hx hb dX0_turn_72 (lv_at hl 1 rfl) ?_
      refine lv_iadd hx hb dX0_turn_74 ?_
      refine tc_int (y := nI ((a * 64) + i2)) (nI_add _ _) ?_
      refine ld_nl hx hb hK hP 4 2 rfl rfl (j := ((a * 64) + i2)) (by omega) (by decide) dX0_turn_75 ?_
      refine tc_long (y := fs (a * 64 + i2)) (pt_out (Or.inl (by omega))) ?_
      refine lv_lstore (lv' := [(8, .long (fs (a * 64 + i2))), (6, .long (ts (a * 64 + i2))), (5, .int (nI i2)), (4, .int (nI (a * 64))), (3, .int (nI (n * 64))), (0, .ref (ad 0)), (1, .int (nI 2)), (2, .int (nI a))]) hx hb dX0_turn_76 hl (by decide) rfl (fun ls hl => ?_)
      refine lv_aload_n hx hb dX0_turn_78 rfl (lv_at hl 5 rfl) ?_
      refine va_get (D := D) (ci := 0) (v := .ref (ad 3)) (C := RX0) (T := TX0) (N := 12) hx hb hts hin0 hown hK hP 0 rfl rfl 3 (by decide) (hts (.fieldLink RX0 21 "RumourReasoner" "trueSets" "[J") (by decide +kernel)) (fun _ h9 => h9) rfl dX0_turn_79 ?_
      refine lv_iload_n hx hb dX0_turn_82 rfl (lv_at hl 4 rfl) ?_
      refine lv_iload hx hb dX0_turn_83 (lv_at hl 2 rfl) ?_
      refine lv_iadd hx hb dX0_turn_85 ?_
      refine tc_int (y := nI ((n * 64) + i2)) (nI_add _ _) ?_
      refine lv_iload_n hx hb dX0_turn_86 rfl (lv_at hl 6 rfl) ?_
      refine lv_iconst (v := nI 2) hx hb dX0_turn_87 (by decide) ?_
      refine cF_ne (tgt := 96) hx hb dX0_turn_88 (by decide) (fun q => q rfl) ?_
      refine lv_lload hx hb dX0_turn_91 (lv_at hl 0 rfl) ?_
      refine lv_goto (tgt := 102) hx hb dX0_turn_93 (by decide) ?_
      refine st_nl hx hb hK hP hD hS 3 2 rfl rfl (j := ((n * 64) + i2)) (by omega) (by decide) dX0_turn_102 (fun H locs hP hD hS => ?_)
      replace hP : va_P D vwCl (wC ad cI cZ cJ n kd sd (vp_updL (pt ts (n * 64) (fun w => fs (a * 64 + w)) i2) ((n * 64) + i2) (fs (a * 64 + i2))) (pt fs (n * 64) (fun w => ts (a * 64 + w)) i2) tr on rp lt ru lg lp) H := by exact hP
      replace hD : va_D A (wC ad cI cZ cJ n kd sd (vp_updL (pt ts (n * 64) (fun w => fs (a * 64 + w)) i2) ((n * 64) + i2) (fs (a * 64 + i2))) (pt fs (n * 64) (fun w => ts (a * 64 + w)) i2) tr on rp lt ru lg lp) := sameD rfl hD
      refine lv_aload_n hx hb dX0_turn_103 rfl (lv_at hl 5 rfl) ?_
      refine va_get (D := D) (ci := 0) (v := .ref (ad 4)) (C := RX0) (T := TX0) (N := 12) hx hb hts hin0 hown hK hP 0 rfl rfl 4 (by decide) (hts (.fieldLink RX0 25 "RumourReasoner" "falseSets" "[J") (by decide +kernel)) (fun _ h9 => h9) rfl dX0_turn_104 ?_
      refine lv_iload_n hx hb dX0_turn_107 rfl (lv_at hl 4 rfl) ?_
      refine lv_iload hx hb dX0_turn_108 (lv_at hl 2 rfl) ?_
      refine lv_iadd hx hb dX0_turn_110 ?_
      refine tc_int (y := nI ((n * 64) + i2)) (nI_add _ _) ?_
      refine lv_iload_n hx hb dX0_turn_111 rfl (lv_at hl 6 rfl) ?_
      refine lv_iconst (v := nI 2) hx hb dX0_turn_112 (by decide) ?_
      refine cF_ne (tgt := 121) hx hb dX0_turn_113 (by decide) (fun q => q rfl) ?_
      refine lv_lload hx hb dX0_turn_116 (lv_at hl 1 rfl) ?_
      refine lv_goto (tgt := 127) hx hb dX0_turn_118 (by decide) ?_
      refine st_nl hx hb hK hP hD hS 4 2 rfl rfl (j := ((n * 64) + i2)) (by omega) (by decide) dX0_turn_127 (fun H locs hP hD hS => ?_)
      replace hP : va_P D vwCl (wC ad cI cZ cJ n kd sd (vp_updL (pt ts (n * 64) (fun w => fs (a * 64 + w)) i2) ((n * 64) + i2) (fs (a * 64 + i2))) (vp_updL (pt fs (n * 64) (fun w => ts (a * 64 + w)) i2) ((n * 64) + i2) (ts (a * 64 + i2))) tr on rp lt ru lg lp) H := by exact hP
      replace hD : va_D A (wC ad cI cZ cJ n kd sd (vp_updL (pt ts (n * 64) (fun w => fs (a * 64 + w)) i2) ((n * 64) + i2) (fs (a * 64 + i2))) (vp_updL (pt fs (n * 64) (fun w => ts (a * 64 + w)) i2) ((n * 64) + i2) (ts (a * 64 + i2))) tr on rp lt ru lg lp) := sameD rfl hD
      refine lv_iinc (v := nI (i2 + 1)) (lv' := [(5, .int (nI (i2 + 1))), (8, .long (fs (a * 64 + i2))), (6, .long (ts (a * 64 + i2))), (4, .int (nI (a * 64))), (3, .int (nI (n * 64))), (0, .ref (ad 0)), (1, .int (nI 2)), (2, .int (nI a))]) hx hb dX0_turn_128 hl (k := 2) rfl (iinc1 _) (by decide) rfl (fun ls hl => ?_)
      refine lv_goto (tgt := 47) hx hb dX0_turn_131 (by decide) ?_
      exact ih_i2 (i2 + 1) (by omega) H locs ls hP hD hS (lv_sub hl [0, 3, 4, 5, 6, 7] rfl)
  exact key1 (64) 0 (by omega) _ _ ls hP hD hS (lv_sub hl [0, 1, 2, 3, 4, 5] rfl)

set_option maxHeartbeats 4000000 in
set_option maxRecDepth 100000 in
theorem c_X0_turn_8 (hO : OKC n tr rp lt lg ru) (a : Nat) (ha : a < n) (hn40 : n < 40) : MuI l yX0_turn wsX0_turn rm_X0_turn D vwCl (wC ad cI cZ cJ n kd sd ts fs tr on rp lt ru lg lp) (fun _ => wC ad cI cZ cJ (n + 1) (va_up kd n 8) (va_up sd n false) (pt ts (n * 64) (fun w => fs (a * 64 + w) ^^^ (-1)) 64) (pt fs (n * 64) (fun w => ts (a * 64 + w) ^^^ (-1)) 64) tr on rp lt ru lg lp) (tyC cI cZ cJ) [.ref (ad 0), .int (nI 8), .int (nI a)] (nI n) := by
  refine MuI.of (cc := cX0_turn) (maxL := 10) (by decide) rfl (Nat.le_of_ble_eq_true rfl) (vp_nar_int _) ?_
  intro A p e s m args below meth c Q ls hx hb hml hown hts hP hK hD kret hl
  have hown : s.vm.findClass RX0 = some m.cls := hown
  have hl : lv_has ls 10 [(0, .ref (ad 0)), (1, .int (nI 8)), (2, .int (nI a))] := hl
  have hS : va_S A s.heap s.heap [] := va_S.rf
  have hin0 : ∀ w ∈ u_ws RX0 TX0 12, w ∈ wsX0_turn := hin_X0_turn
  refine lv_aload_n hx hb dX0_turn_0 rfl (lv_at hl 0 rfl) ?_
  refine lv_iload_n hx hb dX0_turn_1 rfl (lv_at hl 2 rfl) ?_
  refine puV_V (own := RX0) (As := [.int (nI a)]) (rest := []) (C := RX0) (ci := 0) (q0 := 0) ⟨hx, hb, hml, hown, hts⟩ (c_X0_requireFormula l D ad cI cZ cJ n kd sd ts fs tr on rp lt ru lg lp hO a (by omega)) gX0_turn_X0_requireFormula rfl ⟨rfl, rfl⟩ 1 rfl (by decide +kernel) ⟨Nat.le_of_ble_eq_true rfl, Nat.le_of_ble_eq_true rfl⟩ hP hK rfl rfl rfl hS hl.1 rfl (Nat.le_of_ble_eq_true rfl) dX0_turn_2 ⟨Nat.zero_le _, Nat.zero_le _⟩ (fun H locs hk1 hS => ?_)
  replace hP := keptP hP hk1
  refine lv_iload_n hx hb dX0_turn_5 rfl (lv_at hl 1 rfl) ?_
  refine lv_iconst (v := nI 2) hx hb dX0_turn_6 (by decide) ?_
  refine cF_eq (tgt := 26) hx hb dX0_turn_7 (by decide) (by decide) ?_
  refine lv_iload_n hx hb dX0_turn_10 rfl (lv_at hl 1 rfl) ?_
  refine lv_bipush (v := nI 8) hx hb dX0_turn_11 (by decide) ?_
  refine cT_eq (tgt := 26) hx hb dX0_turn_13 (by decide) (rfl) ?_
  refine lv_aload_n hx hb dX0_turn_26 rfl (lv_at hl 0 rfl) ?_
  refine puV_V (own := RX0) (As := []) (rest := []) (C := RX0) (ci := 0) (q0 := 0) ⟨hx, hb, hml, hown, hts⟩ (c_X0_requireRoom l D ad cI cZ cJ n kd sd ts fs tr on rp lt ru lg lp (by omega)) gX0_turn_X0_requireRoom rfl ⟨rfl, rfl⟩ 0 rfl (by decide +kernel) ⟨Nat.le_of_ble_eq_true rfl, Nat.le_of_ble_eq_true rfl⟩ hP hK rfl rfl rfl hS hl.1 rfl (Nat.le_of_ble_eq_true rfl) dX0_turn_27 ⟨Nat.zero_le _, Nat.zero_le _⟩ (fun H locs hk1 hS => ?_)
  replace hP := keptP hP hk1
  refine lv_aload_n hx hb dX0_turn_30 rfl (lv_at hl 0 rfl) ?_
  refine va_get (D := D) (ci := 0) (v := .int (nI n)) (C := RX0) (T := TX0) (N := 12) hx hb hts hin0 hown hK hP 0 rfl rfl 0 (by decide) (hts (.fieldLink RX0 9 "RumourReasoner" "count" "I") (by decide +kernel)) (fun _ h9 => h9) rfl dX0_turn_31 ?_
  refine puI_S (own := RX0) (As := [.int (nI n)]) (rest := []) ⟨hx, hb, hml, hown, hts⟩ (c_X0_rowOf l D n) gX0_turn_X0_rowOf rfl ⟨rfl, rfl⟩ 1 rfl (by decide +kernel) ⟨Nat.le_of_ble_eq_true rfl, Nat.le_of_ble_eq_true rfl⟩ nilP (hK.sub (tys' := []) [] rfl) hS hl.1 rfl (Nat.le_of_ble_eq_true rfl) dX0_turn_34 ⟨Nat.zero_le _, Nat.zero_le _⟩ (fun H locs hk1 hS => ?_)
  replace hP := keptP hP hk1
  refine lv_istore_n (lv' := [(3, .int (nI (n * 64))), (0, .ref (ad 0)), (1, .int (nI 8)), (2, .int (nI a))]) hx hb dX0_turn_37 rfl hl (by decide) rfl (fun ls hl => ?_)
  refine lv_iload_n hx hb dX0_turn_38 rfl (lv_at hl 3 rfl) ?_
  refine puI_S (own := RX0) (As := [.int (nI a)]) (rest := []) ⟨hx, hb, hml, hown, hts⟩ (c_X0_rowOf l D a) gX0_turn_X0_rowOf rfl ⟨rfl, rfl⟩ 1 rfl (by decide +kernel) ⟨Nat.le_of_ble_eq_true rfl, Nat.le_of_ble_eq_true rfl⟩ nilP (hK.sub (tys' := []) [] rfl) hS hl.1 rfl (Nat.le_of_ble_eq_true rfl) dX0_turn_39 ⟨Nat.zero_le _, Nat.zero_le _⟩ (fun H locs hk1 hS => ?_)
  replace hP := keptP hP hk1
  refine lv_istore (lv' := [(4, .int (nI (a * 64))), (3, .int (nI (n * 64))), (0, .ref (ad 0)), (1, .int (nI 8)), (2, .int (nI a))]) hx hb dX0_turn_42 hl (by decide) rfl (fun ls hl => ?_)
  refine lv_iconst (v := nI 0) hx hb dX0_turn_44 (by decide) ?_
  refine lv_istore (lv' := [(5, .int (nI 0)), (4, .int (nI (a * 64))), (3, .int (nI (n * 64))), (0, .ref (ad 0)), (1, .int (nI 8)), (2, .int (nI a))]) hx hb dX0_turn_45 hl (by decide) rfl (fun ls hl => ?_)
  have key1 : ∀ (d3 i2 : Nat), i2 + d3 = 64 → ∀ (H : Heap) (locs : List Loc) (ls : Array Slot), va_P D vwCl (wC ad cI cZ cJ n kd sd (pt ts (n * 64) (fun w => fs (a * 64 + w) ^^^ (-1)) i2) (pt fs (n * 64) (fun w => ts (a * 64 + w) ^^^ (-1)) i2) tr on rp lt ru lg lp) H → va_D A (wC ad cI cZ cJ n kd sd (pt ts (n * 64) (fun w => fs (a * 64 + w) ^^^ (-1)) i2) (pt fs (n * 64) (fun w => ts (a * 64 + w) ^^^ (-1)) i2) tr on rp lt ru lg lp) → va_S A s.heap H locs → lv_has ls 10 [(5, .int (nI i2)), (4, .int (nI (a * 64))), (3, .int (nI (n * 64))), (0, .ref (ad 0)), (1, .int (nI 8)), (2, .int (nI a))] → W p l e rm_X0_turn s m args below meth c H locs 0 0 Q (F0 m 47 ls []) := by
    intro d3
    induction d3 with
    | zero =>
      intro i2 hi_i2 H locs ls hP hD hS hl
      obtain rfl : i2 = 64 := by omega
      refine lv_iload hx hb dX0_turn_47 (lv_at hl 0 rfl) ?_
      refine lv_bipush (v := nI 64) hx hb dX0_turn_49 (by decide) ?_
      refine cT_ge (tgt := 134) hx hb dX0_turn_51 (by decide) (nI_le (by omega) (by omega)) ?_
      refine lv_aload_n hx hb dX0_turn_134 rfl (lv_at hl 3 rfl) ?_
      refine lv_iload_n hx hb dX0_turn_135 rfl (lv_at hl 4 rfl) ?_
      refine lv_iload_n hx hb dX0_turn_136 rfl (lv_at hl 4 rfl) ?_
      refine lv_iconst (v := nI 2) hx hb dX0_turn_137 (by decide) ?_
      refine cT_ne (tgt := 154) hx hb dX0_turn_138 (by decide) (by decide) ?_
      refine lv_iconst (v := nI 0) hx hb dX0_turn_154 (by decide) ?_
      refine tc_int (y := bI false) (rfl) ?_
      refine muI_V (own := RX0) (As := [.int (nI 8), .int (bI false)]) (rest := []) (C := RX0) (ci := 0) (q0 := 0) (A1 := A) ⟨hx, hb, hml, hown, hts⟩ (c_X0_addFormula l D ad cI cZ cJ n kd sd (pt ts (n * 64) (fun w => fs (a * 64 + w) ^^^ (-1)) i2) (pt fs (n * 64) (fun w => ts (a * 64 + w) ^^^ (-1)) i2) tr on rp lt ru lg lp 8 false (by omega)) gX0_turn_X0_addFormula rfl ⟨rfl, rfl⟩ 2 rfl (by decide +kernel) ⟨Nat.le_of_ble_eq_true rfl, Nat.le_of_ble_eq_true rfl⟩ hP hK hD (fun _ h9 => h9) rfl rfl rfl hS hl.1 rfl (Nat.le_of_ble_eq_true rfl) dX0_turn_155 ⟨Nat.zero_le _, Nat.zero_le _⟩ (fun u H locs hP hz1 hk1 hS => ?_)
      replace hP : va_P D vwCl (wC ad cI cZ cJ (n + 1) (va_up kd n 8) (va_up sd n false) (pt ts (n * 64) (fun w => fs (a * 64 + w) ^^^ (-1)) i2) (pt fs (n * 64) (fun w => ts (a * 64 + w) ^^^ (-1)) i2) tr on rp lt ru lg lp) H := hP
      replace hD : va_D A (wC ad cI cZ cJ (n + 1) (va_up kd n 8) (va_up sd n false) (pt ts (n * 64) (fun w => fs (a * 64 + w) ^^^ (-1)) i2) (pt fs (n * 64) (fun w => ts (a * 64 + w) ^^^ (-1)) i2) tr on rp lt ru lg lp) := sameD rfl hD
      exact kret _ (fun _ => 0) _ _ _ _ (rfl) hP hS dX0_turn_158
    | succ d3 ih_i2 =>
      intro i2 hi_i2 H locs ls hP hD hS hl
      refine lv_iload hx hb dX0_turn_47 (lv_at hl 0 rfl) ?_
      refine lv_bipush (v := nI 64) hx hb dX0_turn_49 (by decide) ?_
      refine cF_ge (tgt := 134) hx hb dX0_turn_51 (by decide) (nI_ge (by omega) (by omega)) ?_
      refine lv_aload_n hx hb dX0_turn_54 rfl (lv_at hl 3 rfl) ?_
      refine va_get (D := D) (ci := 0) (v := .ref (ad 3)) (C := RX0) (T := TX0) (N := 12) hx hb hts hin0 hown hK hP 0 rfl rfl 3 (by decide) (hts (.fieldLink RX0 21 "RumourReasoner" "trueSets" "[J") (by decide +kernel)) (fun _ h9 => h9) rfl dX0_turn_55 ?_
      refine lv_iload hx hb dX0_turn_58 (lv_at hl 1 rfl) ?_
      refine lv_iload hx hb dX0_turn_60 (lv_at hl 0 rfl) ?_
      refine lv_iadd hx hb dX0_turn_62 ?_
      refine tc_int (y := nI ((a * 64) + i2)) (nI_add _ _) ?_
      refine ld_nl hx hb hK hP 3 2 rfl rfl (j := ((a * 64) + i2)) (by omega) (by decide) dX0_turn_63 ?_
      refine tc_long (y := ts (a * 64 + i2)) (pt_out (Or.inl (by omega))) ?_
      refine lv_lstore (lv' := [(6, .long (ts (a * 64 + i2))), (5, .int (nI i2)), (4, .int (nI (a * 64))), (3, .int (nI (n * 64))), (0, .ref (ad 0)), (1, .int (nI 8)), (2, .int (nI a))]) hx hb dX0_turn_64 hl (by decide) rfl (fun ls hl => ?_)
      refine lv_aload_n hx hb dX0_turn_66 rfl (lv_at hl 4 rfl) ?_
      refine va_get (D := D) (ci := 0) (v := .ref (ad 4)) (C := RX0) (T := TX0) (N := 12) hx hb hts hin0 hown hK hP 0 rfl rfl 4 (by decide) (hts (.fieldLink RX0 25 "RumourReasoner" "falseSets" "[J") (by decide +kernel)) (fun _ h9 => h9) rfl dX0_turn_67 ?_
      refine lv_iload hx hb dX0_turn_70 (lv_at hl 2 rfl) ?_
      refine lv_iload hx hb dX0_turn_72 (lv_at hl 1 rfl) ?_
      refine lv_iadd hx hb dX0_turn_74 ?_
      refine tc_int (y := nI ((a * 64) + i2)) (nI_add _ _) ?_
      refine ld_nl hx hb hK hP 4 2 rfl rfl (j := ((a * 64) + i2)) (by omega) (by decide) dX0_turn_75 ?_
      refine tc_long (y := fs (a * 64 + i2)) (pt_out (Or.inl (by omega))) ?_
      refine lv_lstore (lv' := [(8, .long (fs (a * 64 + i2))), (6, .long (ts (a * 64 + i2))), (5, .int (nI i2)), (4, .int (nI (a * 64))), (3, .int (nI (n * 64))), (0, .ref (ad 0)), (1, .int (nI 8)), (2, .int (nI a))]) hx hb dX0_turn_76 hl (by decide) rfl (fun ls hl => ?_)
      refine lv_aload_n hx hb dX0_turn_78 rfl (lv_at hl 5 rfl) ?_
      refine va_get (D := D) (ci := 0) (v := .ref (ad 3)) (C := RX0) (T := TX0) (N := 12) hx hb hts hin0 hown hK hP 0 rfl rfl 3 (by decide) (hts (.fieldLink RX0 21 "RumourReasoner" "trueSets" "[J") (by decide +kernel)) (fun _ h9 => h9) rfl dX0_turn_79 ?_
      refine lv_iload_n hx hb dX0_turn_82 rfl (lv_at hl 4 rfl) ?_
      refine lv_iload hx hb dX0_turn_83 (lv_at hl 2 rfl) ?_
      refine lv_iadd hx hb dX0_turn_85 ?_
      refine tc_int (y := nI ((n * 64) + i2)) (nI_add _ _) ?_
      refine lv_iload_n hx hb dX0_turn_86 rfl (lv_at hl 6 rfl) ?_
      refine lv_iconst (v := nI 2) hx hb dX0_turn_87 (by decide) ?_
      refine cT_ne (tgt := 96) hx hb dX0_turn_88 (by decide) (by decide) ?_
      refine lv_lload hx hb dX0_turn_96 (lv_at hl 0 rfl) ?_
      refine lv_ldc2 (v := (-1)) hx hb hown (hts (.constantLong RX0 46 (-1)) (by decide +kernel)) dX0_turn_98 ?_
      refine lv_lxor hx hb dX0_turn_101 ?_
      refine st_nl hx hb hK hP hD hS 3 2 rfl rfl (j := ((n * 64) + i2)) (by omega) (by decide) dX0_turn_102 (fun H locs hP hD hS => ?_)
      replace hP : va_P D vwCl (wC ad cI cZ cJ n kd sd (vp_updL (pt ts (n * 64) (fun w => fs (a * 64 + w) ^^^ (-1)) i2) ((n * 64) + i2) ((fs (a * 64 + i2)) ^^^ (-1))) (pt fs (n * 64) (fun w => ts (a * 64 + w) ^^^ (-1)) i2) tr on rp lt ru lg lp) H := by exact hP
      replace hD : va_D A (wC ad cI cZ cJ n kd sd (vp_updL (pt ts (n * 64) (fun w => fs (a * 64 + w) ^^^ (-1)) i2) ((n * 64) + i2) ((fs (a * 64 + i2)) ^^^ (-1))) (pt fs (n * 64) (fun w => ts (a * 64 + w) ^^^ (-1)) i2) tr on rp lt ru lg lp) := sameD rfl hD
      refine lv_aload_n hx hb dX0_turn_103 rfl (lv_at hl 5 rfl) ?_
      refine va_get (D := D) (ci := 0) (v := .ref (ad 4)) (C := RX0) (T := TX0) (N := 12) hx hb hts hin0 hown hK hP 0 rfl rfl 4 (by decide) (hts (.fieldLink RX0 25 "RumourReasoner" "falseSets" "[J") (by decide +kernel)) (fun _ h9 => h9) rfl dX0_turn_104 ?_
      refine lv_iload_n hx hb dX0_turn_107 rfl (lv_at hl 4 rfl) ?_
      refine lv_iload hx hb dX0_turn_108 (lv_at hl 2 rfl) ?_
      refine lv_iadd hx hb dX0_turn_110 ?_
      refine tc_int (y := nI ((n * 64) + i2)) (nI_add _ _) ?_
      refine lv_iload_n hx hb dX0_turn_111 rfl (lv_at hl 6 rfl) ?_
      refine lv_iconst (v := nI 2) hx hb dX0_turn_112 (by decide) ?_
      refine cT_ne (tgt := 121) hx hb dX0_turn_113 (by decide) (by decide) ?_
      refine lv_lload hx hb dX0_turn_121 (lv_at hl 1 rfl) ?_
      refine lv_ldc2 (v := (-1)) hx hb hown (hts (.constantLong RX0 46 (-1)) (by decide +kernel)) dX0_turn_123 ?_
      refine lv_lxor hx hb dX0_turn_126 ?_
      refine st_nl hx hb hK hP hD hS 4 2 rfl rfl (j := ((n * 64) + i2)) (by omega) (by decide) dX0_turn_127 (fun H locs hP hD hS => ?_)
      replace hP : va_P D vwCl (wC ad cI cZ cJ n kd sd (vp_updL (pt ts (n * 64) (fun w => fs (a * 64 + w) ^^^ (-1)) i2) ((n * 64) + i2) ((fs (a * 64 + i2)) ^^^ (-1))) (vp_updL (pt fs (n * 64) (fun w => ts (a * 64 + w) ^^^ (-1)) i2) ((n * 64) + i2) ((ts (a * 64 + i2)) ^^^ (-1))) tr on rp lt ru lg lp) H := by exact hP
      replace hD : va_D A (wC ad cI cZ cJ n kd sd (vp_updL (pt ts (n * 64) (fun w => fs (a * 64 + w) ^^^ (-1)) i2) ((n * 64) + i2) ((fs (a * 64 + i2)) ^^^ (-1))) (vp_updL (pt fs (n * 64) (fun w => ts (a * 64 + w) ^^^ (-1)) i2) ((n * 64) + i2) ((ts (a * 64 + i2)) ^^^ (-1))) tr on rp lt ru lg lp) := sameD rfl hD
      refine lv_iinc (v := nI (i2 + 1)) (lv' := [(5, .int (nI (i2 + 1))), (8, .long (fs (a * 64 + i2))), (6, .long (ts (a * 64 + i2))), (4, .int (nI (a * 64))), (3, .int (nI (n * 64))), (0, .ref (ad 0)), (1, .int (nI 8)), (2, .int (nI a))]) hx hb dX0_turn_128 hl (k := 2) rfl (iinc1 _) (by decide) rfl (fun ls hl => ?_)
      refine lv_goto (tgt := 47) hx hb dX0_turn_131 (by decide) ?_
      exact ih_i2 (i2 + 1) (by omega) H locs ls hP hD hS (lv_sub hl [0, 3, 4, 5, 6, 7] rfl)
  exact key1 (64) 0 (by omega) _ _ ls hP hD hS (lv_sub hl [0, 1, 2, 3, 4, 5] rfl)

theorem hin_X0_join : ∀ w ∈ wsX00, w ∈ wsX0_join := by first | exact fun _ h => List.mem_cons_of_mem _ (List.mem_append_right _ h) | exact fun _ h => List.mem_cons_of_mem _ (List.mem_append_left _ (List.mem_append_right _ h)) | exact fun _ h => List.mem_cons_of_mem _ (List.mem_append_left _ (List.mem_append_left _ (List.mem_append_right _ h))) | exact fun _ h => List.mem_cons_of_mem _ (List.mem_append_left _ (List.mem_append_left _ (List.mem_append_left _ (List.mem_append_right _ h)))) | decide +kernel
def rm_X0_join : Room := { frames := 1, cells := 0, slots := 0, locals := 26 }
set_option maxHeartbeats 4000000 in
set_option maxRecDepth 100000 in
theorem c_X0_join (hO : OKC n tr rp lt lg ru) (k a b : Nat) (hk : 3 ≤ k ∧ k ≤ 7) (ha : a < n) (hb9 : b < n) (hn40 : n < 40) : MuI l yX0_join wsX0_join rm_X0_join D vwCl (wC ad cI cZ cJ n kd sd ts fs tr on rp lt ru lg lp) (fun _ => wC ad cI cZ cJ (n + 1) (va_up kd n k) (va_up sd n (decide (k ≠ 7) && sd a && sd b)) (pt ts (n * 64) (fun w => jTL k (ts (a * 64 + w)) (ts (b * 64 + w))) 64) (pt fs (n * 64) (fun w => jFL k (ts (a * 64 + w)) (fs (a * 64 + w)) (fs (b * 64 + w))) 64) tr on rp lt ru lg lp) (tyC cI cZ cJ) [.ref (ad 0), .int (nI k), .int (nI a), .int (nI b)] (nI n) := by
  refine MuI.of (cc := cX0_join) (maxL := 10) (by decide) rfl (Nat.le_of_ble_eq_true rfl) (vp_nar_int _) ?_
  intro A p e s m args below meth c Q ls hx hb hml hown hts hP hK hD kret hl
  have hown : s.vm.findClass RX0 = some m.cls := hown
  have hl : lv_has ls 10 [(0, .ref (ad 0)), (1, .int (nI k)), (2, .int (nI a)), (3, .int (nI b))] := hl
  have hS : va_S A s.heap s.heap [] := va_S.rf
  have hin0 : ∀ w ∈ u_ws RX0 TX0 12, w ∈ wsX0_join := hin_X0_join
  refine lv_aload_n hx hb dX0_join_0 rfl (lv_at hl 0 rfl) ?_
  refine lv_iload_n hx hb dX0_join_1 rfl (lv_at hl 2 rfl) ?_
  refine puV_V (own := RX0) (As := [.int (nI a)]) (rest := []) (C := RX0) (ci := 0) (q0 := 0) ⟨hx, hb, hml, hown, hts⟩ (c_X0_requireFormula l D ad cI cZ cJ n kd sd ts fs tr on rp lt ru lg lp hO a (by omega)) gX0_join_X0_requireFormula rfl ⟨rfl, rfl⟩ 1 rfl (by decide +kernel) ⟨Nat.le_of_ble_eq_true rfl, Nat.le_of_ble_eq_true rfl⟩ hP hK rfl rfl rfl hS hl.1 rfl (Nat.le_of_ble_eq_true rfl) dX0_join_2 ⟨Nat.zero_le _, Nat.zero_le _⟩ (fun H locs hk1 hS => ?_)
  replace hP := keptP hP hk1
  refine lv_aload_n hx hb dX0_join_5 rfl (lv_at hl 0 rfl) ?_
  refine lv_iload_n hx hb dX0_join_6 rfl (lv_at hl 3 rfl) ?_
  refine puV_V (own := RX0) (As := [.int (nI b)]) (rest := []) (C := RX0) (ci := 0) (q0 := 0) ⟨hx, hb, hml, hown, hts⟩ (c_X0_requireFormula l D ad cI cZ cJ n kd sd ts fs tr on rp lt ru lg lp hO b (by omega)) gX0_join_X0_requireFormula rfl ⟨rfl, rfl⟩ 1 rfl (by decide +kernel) ⟨Nat.le_of_ble_eq_true rfl, Nat.le_of_ble_eq_true rfl⟩ hP hK rfl rfl rfl hS hl.1 rfl (Nat.le_of_ble_eq_true rfl) dX0_join_7 ⟨Nat.zero_le _, Nat.zero_le _⟩ (fun H locs hk1 hS => ?_)
  replace hP := keptP hP hk1
  refine lv_iload_n hx hb dX0_join_10 rfl (lv_at hl 1 rfl) ?_
  refine lv_iconst (v := nI 3) hx hb dX0_join_11 (by decide) ?_
  refine cF_lt (tgt := 21) hx hb dX0_join_12 (by decide) (nI_nlt (by omega) (by omega)) ?_
  refine lv_iload_n hx hb dX0_join_15 rfl (lv_at hl 1 rfl) ?_
  refine lv_bipush (v := nI 7) hx hb dX0_join_16 (by decide) ?_
  refine cT_le (tgt := 31) hx hb dX0_join_18 (by decide) (nI_le (by omega) (by omega)) ?_
  refine lv_aload_n hx hb dX0_join_31 rfl (lv_at hl 0 rfl) ?_
  refine puV_V (own := RX0) (As := []) (rest := []) (C := RX0) (ci := 0) (q0 := 0) ⟨hx, hb, hml, hown, hts⟩ (c_X0_requireRoom l D ad cI cZ cJ n kd sd ts fs tr on rp lt ru lg lp (by omega)) gX0_join_X0_requireRoom rfl ⟨rfl, rfl⟩ 0 rfl (by decide +kernel) ⟨Nat.le_of_ble_eq_true rfl, Nat.le_of_ble_eq_true rfl⟩ hP hK rfl rfl rfl hS hl.1 rfl (Nat.le_of_ble_eq_true rfl) dX0_join_32 ⟨Nat.zero_le _, Nat.zero_le _⟩ (fun H locs hk1 hS => ?_)
  replace hP := keptP hP hk1
  refine lv_aload_n hx hb dX0_join_35 rfl (lv_at hl 0 rfl) ?_
  refine va_get (D := D) (ci := 0) (v := .int (nI n)) (C := RX0) (T := TX0) (N := 12) hx hb hts hin0 hown hK hP 0 rfl rfl 0 (by decide) (hts (.fieldLink RX0 9 "RumourReasoner" "count" "I") (by decide +kernel)) (fun _ h9 => h9) rfl dX0_join_36 ?_
  refine puI_S (own := RX0) (As := [.int (nI n)]) (rest := []) ⟨hx, hb, hml, hown, hts⟩ (c_X0_rowOf l D n) gX0_join_X0_rowOf rfl ⟨rfl, rfl⟩ 1 rfl (by decide +kernel) ⟨Nat.le_of_ble_eq_true rfl, Nat.le_of_ble_eq_true rfl⟩ nilP (hK.sub (tys' := []) [] rfl) hS hl.1 rfl (Nat.le_of_ble_eq_true rfl) dX0_join_39 ⟨Nat.zero_le _, Nat.zero_le _⟩ (fun H locs hk1 hS => ?_)
  replace hP := keptP hP hk1
  refine lv_istore (lv' := [(4, .int (nI (n * 64))), (0, .ref (ad 0)), (1, .int (nI k)), (2, .int (nI a)), (3, .int (nI b))]) hx hb dX0_join_42 hl (by decide) rfl (fun ls hl => ?_)
  refine lv_iload_n hx hb dX0_join_44 rfl (lv_at hl 3 rfl) ?_
  refine puI_S (own := RX0) (As := [.int (nI a)]) (rest := []) ⟨hx, hb, hml, hown, hts⟩ (c_X0_rowOf l D a) gX0_join_X0_rowOf rfl ⟨rfl, rfl⟩ 1 rfl (by decide +kernel) ⟨Nat.le_of_ble_eq_true rfl, Nat.le_of_ble_eq_true rfl⟩ nilP (hK.sub (tys' := []) [] rfl) hS hl.1 rfl (Nat.le_of_ble_eq_true rfl) dX0_join_45 ⟨Nat.zero_le _, Nat.zero_le _⟩ (fun H locs hk1 hS => ?_)
  replace hP := keptP hP hk1
  refine lv_istore (lv' := [(5, .int (nI (a * 64))), (4, .int (nI (n * 64))), (0, .ref (ad 0)), (1, .int (nI k)), (2, .int (nI a)), (3, .int (nI b))]) hx hb dX0_join_48 hl (by decide) rfl (fun ls hl => ?_)
  refine lv_iload_n hx hb dX0_join_50 rfl (lv_at hl 5 rfl) ?_
  refine puI_S (own := RX0) (As := [.int (nI b)]) (rest := []) ⟨hx, hb, hml, hown, hts⟩ (c_X0_rowOf l D b) gX0_join_X0_rowOf rfl ⟨rfl, rfl⟩ 1 rfl (by decide +kernel) ⟨Nat.le_of_ble_eq_true rfl, Nat.le_of_ble_eq_true rfl⟩ nilP (hK.sub (tys' := []) [] rfl) hS hl.1 rfl (Nat.le_of_ble_eq_true rfl) dX0_join_51 ⟨Nat.zero_le _, Nat.zero_le _⟩ (fun H locs hk1 hS => ?_)
  replace hP := keptP hP hk1
  refine lv_istore (lv' := [(6, .int (nI (b * 64))), (5, .int (nI (a * 64))), (4, .int (nI (n * 64))), (0, .ref (ad 0)), (1, .int (nI k)), (2, .int (nI a)), (3, .int (nI b))]) hx hb dX0_join_54 hl (by decide) rfl (fun ls hl => ?_)
  refine lv_iconst (v := nI 0) hx hb dX0_join_56 (by decide) ?_
  refine lv_istore (lv' := [(7, .int (nI 0)), (6, .int (nI (b * 64))), (5, .int (nI (a * 64))), (4, .int (nI (n * 64))), (0, .ref (ad 0)), (1, .int (nI k)), (2, .int (nI a)), (3, .int (nI b))]) hx hb dX0_join_57 hl (by decide) rfl (fun ls hl => ?_)
  have key1 : ∀ (d3 i2 : Nat), i2 + d3 = 64 → ∀ (H : Heap) (locs : List Loc) (ls : Array Slot), va_P D vwCl (wC ad cI cZ cJ n kd sd (pt ts (n * 64) (fun w => jTL k (ts (a * 64 + w)) (ts (b * 64 + w))) i2) (pt fs (n * 64) (fun w => jFL k (ts (a * 64 + w)) (fs (a * 64 + w)) (fs (b * 64 + w))) i2) tr on rp lt ru lg lp) H → va_D A (wC ad cI cZ cJ n kd sd (pt ts (n * 64) (fun w => jTL k (ts (a * 64 + w)) (ts (b * 64 + w))) i2) (pt fs (n * 64) (fun w => jFL k (ts (a * 64 + w)) (fs (a * 64 + w)) (fs (b * 64 + w))) i2) tr on rp lt ru lg lp) → va_S A s.heap H locs → lv_has ls 10 [(7, .int (nI i2)), (6, .int (nI (b * 64))), (5, .int (nI (a * 64))), (4, .int (nI (n * 64))), (0, .ref (ad 0)), (1, .int (nI k)), (2, .int (nI a)), (3, .int (nI b))] → W p l e rm_X0_join s m args below meth c H locs 0 0 Q (F0 m 59 ls []) := by
    intro d3
    induction d3 with
    | zero =>
      intro i2 hi_i2 H locs ls hP hD hS hl
      obtain rfl : i2 = 64 := by omega
      refine lv_iload hx hb dX0_join_59 (lv_at hl 0 rfl) ?_
      refine lv_bipush (v := nI 64) hx hb dX0_join_61 (by decide) ?_
      refine cT_ge (tgt := 146) hx hb dX0_join_63 (by decide) (nI_le (by omega) (by omega)) ?_
      refine lv_aload_n hx hb dX0_join_146 rfl (lv_at hl 4 rfl) ?_
      refine lv_iload_n hx hb dX0_join_147 rfl (lv_at hl 5 rfl) ?_
      refine lv_iload_n hx hb dX0_join_148 rfl (lv_at hl 5 rfl) ?_
      refine lv_bipush (v := nI 7) hx hb dX0_join_149 (by decide) ?_
      refine lv_icmp_eq (tgt := 176) hx hb dX0_join_151 (by decide) (fun c_4 => ?_) (fun c_4 => ?_)
      · have e_151 : decide (k ≠ 7) = false := decide_eq_false (fun q => q ((nI_eq (by omega) (by decide)).mp c_4))
        refine lv_iconst (v := nI 0) hx hb dX0_join_176 (by decide) ?_
        refine tc_int (y := bI (decide (k ≠ 7) && sd a && sd b)) (by rw [e_151]; rfl) ?_
        refine muI_V (own := RX0) (As := [.int (nI k), .int (bI (decide (k ≠ 7) && sd a && sd b))]) (rest := []) (C := RX0) (ci := 0) (q0 := 0) (A1 := A) ⟨hx, hb, hml, hown, hts⟩ (c_X0_addFormula l D ad cI cZ cJ n kd sd (pt ts (n * 64) (fun w => jTL k (ts (a * 64 + w)) (ts (b * 64 + w))) i2) (pt fs (n * 64) (fun w => jFL k (ts (a * 64 + w)) (fs (a * 64 + w)) (fs (b * 64 + w))) i2) tr on rp lt ru lg lp k (decide (k ≠ 7) && sd a && sd b) (by omega)) gX0_join_X0_addFormula rfl ⟨rfl, rfl⟩ 2 rfl (by decide +kernel) ⟨Nat.le_of_ble_eq_true rfl, Nat.le_of_ble_eq_true rfl⟩ hP hK hD (fun _ h9 => h9) rfl rfl rfl hS hl.1 rfl (Nat.le_of_ble_eq_true rfl) dX0_join_177 ⟨Nat.zero_le _, Nat.zero_le _⟩ (fun u H locs hP hz1 hk1 hS => ?_)
        replace hP : va_P D vwCl (wC ad cI cZ cJ (n + 1) (va_up kd n k) (va_up sd n (decide (k ≠ 7) && sd a && sd b)) (pt ts (n * 64) (fun w => jTL k (ts (a * 64 + w)) (ts (b * 64 + w))) i2) (pt fs (n * 64) (fun w => jFL k (ts (a * 64 + w)) (fs (a * 64 + w)) (fs (b * 64 + w))) i2) tr on rp lt ru lg lp) H := hP
        replace hD : va_D A (wC ad cI cZ cJ (n + 1) (va_up kd n k) (va_up sd n (decide (k ≠ 7) && sd a && sd b)) (pt ts (n * 64) (fun w => jTL k (ts (a * 64 + w)) (ts (b * 64 + w))) i2) (pt fs (n * 64) (fun w => jFL k (ts (a * 64 + w)) (fs (a * 64 + w)) (fs (b * 64 + w))) i2) tr on rp lt ru lg lp) := sameD rfl hD
        exact kret _ (fun _ => 0) _ _ _ _ (rfl) hP hS dX0_join_180
      · have e_151 : decide (k ≠ 7) = true := decide_eq_true (fun q => c_4 (by rw [q]))
        refine lv_aload_n hx hb dX0_join_154 rfl (lv_at hl 4 rfl) ?_
        refine va_get (D := D) (ci := 0) (v := .ref (ad 2)) (C := RX0) (T := TX0) (N := 12) hx hb hts hin0 hown hK hP 0 rfl rfl 2 (by decide) (hts (.fieldLink RX0 17 "RumourReasoner" "steady" "[Z") (by decide +kernel)) (fun _ h9 => h9) rfl dX0_join_155 ?_
        refine lv_iload_n hx hb dX0_join_158 rfl (lv_at hl 6 rfl) ?_
        refine ld_nz hx hb hK hP 2 1 rfl rfl (j := a) (by omega) (by decide) dX0_join_159 ?_
        refine lv_if_eq (tgt := 176) hx hb dX0_join_160 (by decide) (fun c_5 => ?_) (fun c_5 => ?_)
        · have e_160 := bI_0 c_5
          refine lv_iconst (v := nI 0) hx hb dX0_join_176 (by decide) ?_
          refine tc_int (y := bI (decide (k ≠ 7) && sd a && sd b)) (by rw [e_151, e_160]; rfl) ?_
          refine muI_V (own := RX0) (As := [.int (nI k), .int (bI (decide (k ≠ 7) && sd a && sd b))]) (rest := []) (C := RX0) (ci := 0) (q0 := 0) (A1 := A) ⟨hx, hb, hml, hown, hts⟩ (c_X0_addFormula l D ad cI cZ cJ n kd sd (pt ts (n * 64) (fun w => jTL k (ts (a * 64 + w)) (ts (b * 64 + w))) i2) (pt fs (n * 64) (fun w => jFL k (ts (a * 64 + w)) (fs (a * 64 + w)) (fs (b * 64 + w))) i2) tr on rp lt ru lg lp k (decide (k ≠ 7) && sd a && sd b) (by omega)) gX0_join_X0_addFormula rfl ⟨rfl, rfl⟩ 2 rfl (by decide +kernel) ⟨Nat.le_of_ble_eq_true rfl, Nat.le_of_ble_eq_true rfl⟩ hP hK hD (fun _ h9 => h9) rfl rfl rfl hS hl.1 rfl (Nat.le_of_ble_eq_true rfl) dX0_join_177 ⟨Nat.zero_le _, Nat.zero_le _⟩ (fun u H locs hP hz1 hk1 hS => ?_)
          replace hP : va_P D vwCl (wC ad cI cZ cJ (n + 1) (va_up kd n k) (va_up sd n (decide (k ≠ 7) && sd a && sd b)) (pt ts (n * 64) (fun w => jTL k (ts (a * 64 + w)) (ts (b * 64 + w))) i2) (pt fs (n * 64) (fun w => jFL k (ts (a * 64 + w)) (fs (a * 64 + w)) (fs (b * 64 + w))) i2) tr on rp lt ru lg lp) H := hP
          replace hD : va_D A (wC ad cI cZ cJ (n + 1) (va_up kd n k) (va_up sd n (decide (k ≠ 7) && sd a && sd b)) (pt ts (n * 64) (fun w => jTL k (ts (a * 64 + w)) (ts (b * 64 + w))) i2) (pt fs (n * 64) (fun w => jFL k (ts (a * 64 + w)) (fs (a * 64 + w)) (fs (b * 64 + w))) i2) tr on rp lt ru lg lp) := sameD rfl hD
          exact kret _ (fun _ => 0) _ _ _ _ (rfl) hP hS dX0_join_180
        · have e_160 := bI_1 c_5
          refine lv_aload_n hx hb dX0_join_163 rfl (lv_at hl 4 rfl) ?_
          refine va_get (D := D) (ci := 0) (v := .ref (ad 2)) (C := RX0) (T := TX0) (N := 12) hx hb hts hin0 hown hK hP 0 rfl rfl 2 (by decide) (hts (.fieldLink RX0 17 "RumourReasoner" "steady" "[Z") (by decide +kernel)) (fun _ h9 => h9) rfl dX0_join_164 ?_
          refine lv_iload_n hx hb dX0_join_167 rfl (lv_at hl 7 rfl) ?_
          refine ld_nz hx hb hK hP 2 1 rfl rfl (j := b) (by omega) (by decide) dX0_join_168 ?_
          refine lv_if_eq (tgt := 176) hx hb dX0_join_169 (by decide) (fun c_6 => ?_) (fun c_6 => ?_)
          · have e_169 := bI_0 c_6
            refine lv_iconst (v := nI 0) hx hb dX0_join_176 (by decide) ?_
            refine tc_int (y := bI (decide (k ≠ 7) && sd a && sd b)) (by rw [e_151, e_160, e_169]; rfl) ?_
            refine muI_V (own := RX0) (As := [.int (nI k), .int (bI (decide (k ≠ 7) && sd a && sd b))]) (rest := []) (C := RX0) (ci := 0) (q0 := 0) (A1 := A) ⟨hx, hb, hml, hown, hts⟩ (c_X0_addFormula l D ad cI cZ cJ n kd sd (pt ts (n * 64) (fun w => jTL k (ts (a * 64 + w)) (ts (b * 64 + w))) i2) (pt fs (n * 64) (fun w => jFL k (ts (a * 64 + w)) (fs (a * 64 + w)) (fs (b * 64 + w))) i2) tr on rp lt ru lg lp k (decide (k ≠ 7) && sd a && sd b) (by omega)) gX0_join_X0_addFormula rfl ⟨rfl, rfl⟩ 2 rfl (by decide +kernel) ⟨Nat.le_of_ble_eq_true rfl, Nat.le_of_ble_eq_true rfl⟩ hP hK hD (fun _ h9 => h9) rfl rfl rfl hS hl.1 rfl (Nat.le_of_ble_eq_true rfl) dX0_join_177 ⟨Nat.zero_le _, Nat.zero_le _⟩ (fun u H locs hP hz1 hk1 hS => ?_)
            replace hP : va_P D vwCl (wC ad cI cZ cJ (n + 1) (va_up kd n k) (va_up sd n (decide (k ≠ 7) && sd a && sd b)) (pt ts (n * 64) (fun w => jTL k (ts (a * 64 + w)) (ts (b * 64 + w))) i2) (pt fs (n * 64) (fun w => jFL k (ts (a * 64 + w)) (fs (a * 64 + w)) (fs (b * 64 + w))) i2) tr on rp lt ru lg lp) H := hP
            replace hD : va_D A (wC ad cI cZ cJ (n + 1) (va_up kd n k) (va_up sd n (decide (k ≠ 7) && sd a && sd b)) (pt ts (n * 64) (fun w => jTL k (ts (a * 64 + w)) (ts (b * 64 + w))) i2) (pt fs (n * 64) (fun w => jFL k (ts (a * 64 + w)) (fs (a * 64 + w)) (fs (b * 64 + w))) i2) tr on rp lt ru lg lp) := sameD rfl hD
            exact kret _ (fun _ => 0) _ _ _ _ (rfl) hP hS dX0_join_180
          · have e_169 := bI_1 c_6
            refine lv_iconst (v := nI 1) hx hb dX0_join_172 (by decide) ?_
            refine tc_int (y := bI (decide (k ≠ 7) && sd a && sd b)) (by rw [e_151, e_160, e_169]; rfl) ?_
            refine lv_goto (tgt := 177) hx hb dX0_join_173 (by decide) ?_
            refine muI_V (own := RX0) (As := [.int (nI k), .int (bI (decide (k ≠ 7) && sd a && sd b))]) (rest := []) (C := RX0) (ci := 0) (q0 := 0) (A1 := A) ⟨hx, hb, hml, hown, hts⟩ (c_X0_addFormula l D ad cI cZ cJ n kd sd (pt ts (n * 64) (fun w => jTL k (ts (a * 64 + w)) (ts (b * 64 + w))) i2) (pt fs (n * 64) (fun w => jFL k (ts (a * 64 + w)) (fs (a * 64 + w)) (fs (b * 64 + w))) i2) tr on rp lt ru lg lp k (decide (k ≠ 7) && sd a && sd b) (by omega)) gX0_join_X0_addFormula rfl ⟨rfl, rfl⟩ 2 rfl (by decide +kernel) ⟨Nat.le_of_ble_eq_true rfl, Nat.le_of_ble_eq_true rfl⟩ hP hK hD (fun _ h9 => h9) rfl rfl rfl hS hl.1 rfl (Nat.le_of_ble_eq_true rfl) dX0_join_177 ⟨Nat.zero_le _, Nat.zero_le _⟩ (fun u H locs hP hz1 hk1 hS => ?_)
            replace hP : va_P D vwCl (wC ad cI cZ cJ (n + 1) (va_up kd n k) (va_up sd n (decide (k ≠ 7) && sd a && sd b)) (pt ts (n * 64) (fun w => jTL k (ts (a * 64 + w)) (ts (b * 64 + w))) i2) (pt fs (n * 64) (fun w => jFL k (ts (a * 64 + w)) (fs (a * 64 + w)) (fs (b * 64 + w))) i2) tr on rp lt ru lg lp) H := hP
            replace hD : va_D A (wC ad cI cZ cJ (n + 1) (va_up kd n k) (va_up sd n (decide (k ≠ 7) && sd a && sd b)) (pt ts (n * 64) (fun w => jTL k (ts (a * 64 + w)) (ts (b * 64 + w))) i2) (pt fs (n * 64) (fun w => jFL k (ts (a * 64 + w)) (fs (a * 64 + w)) (fs (b * 64 + w))) i2) tr on rp lt ru lg lp) := sameD rfl hD
            exact kret _ (fun _ => 0) _ _ _ _ (rfl) hP hS dX0_join_180
    | succ d3 ih_i2 =>
      intro i2 hi_i2 H locs ls hP hD hS hl
      refine lv_iload hx hb dX0_join_59 (lv_at hl 0 rfl) ?_
      refine lv_bipush (v := nI 64) hx hb dX0_join_61 (by decide) ?_
      refine cF_ge (tgt := 146) hx hb dX0_join_63 (by decide) (nI_ge (by omega) (by omega)) ?_
      refine lv_aload_n hx hb dX0_join_66 rfl (lv_at hl 4 rfl) ?_
      refine va_get (D := D) (ci := 0) (v := .ref (ad 3)) (C := RX0) (T := TX0) (N := 12) hx hb hts hin0 hown hK hP 0 rfl rfl 3 (by decide) (hts (.fieldLink RX0 21 "RumourReasoner" "trueSets" "[J") (by decide +kernel)) (fun _ h9 => h9) rfl dX0_join_67 ?_
      refine lv_iload hx hb dX0_join_70 (lv_at hl 2 rfl) ?_
      refine lv_iload hx hb dX0_join_72 (lv_at hl 0 rfl) ?_
      refine lv_iadd hx hb dX0_join_74 ?_
      refine tc_int (y := nI ((a * 64) + i2)) (nI_add _ _) ?_
      refine ld_nl hx hb hK hP 3 2 rfl rfl (j := ((a * 64) + i2)) (by omega) (by decide) dX0_join_75 ?_
      refine tc_long (y := ts (a * 64 + i2)) (pt_out (Or.inl (by omega))) ?_
      refine lv_lstore (lv' := [(8, .long (ts (a * 64 + i2))), (7, .int (nI i2)), (6, .int (nI (b * 64))), (5, .int (nI (a * 64))), (4, .int (nI (n * 64))), (0, .ref (ad 0)), (1, .int (nI k)), (2, .int (nI a)), (3, .int (nI b))]) hx hb dX0_join_76 hl (by decide) rfl (fun ls hl => ?_)
      refine lv_aload_n hx hb dX0_join_78 rfl (lv_at hl 5 rfl) ?_
      refine va_get (D := D) (ci := 0) (v := .ref (ad 3)) (C := RX0) (T := TX0) (N := 12) hx hb hts hin0 hown hK hP 0 rfl rfl 3 (by decide) (hts (.fieldLink RX0 21 "RumourReasoner" "trueSets" "[J") (by decide +kernel)) (fun _ h9 => h9) rfl dX0_join_79 ?_
      refine lv_iload hx hb dX0_join_82 (lv_at hl 4 rfl) ?_
      refine lv_iload hx hb dX0_join_84 (lv_at hl 1 rfl) ?_
      refine lv_iadd hx hb dX0_join_86 ?_
      refine tc_int (y := nI ((n * 64) + i2)) (nI_add _ _) ?_
      refine lv_iload_n hx hb dX0_join_87 rfl (lv_at hl 6 rfl) ?_
      refine lv_lload hx hb dX0_join_88 (lv_at hl 0 rfl) ?_
      refine lv_aload_n hx hb dX0_join_90 rfl (lv_at hl 5 rfl) ?_
      refine va_get (D := D) (ci := 0) (v := .ref (ad 3)) (C := RX0) (T := TX0) (N := 12) hx hb hts hin0 hown hK hP 0 rfl rfl 3 (by decide) (hts (.fieldLink RX0 21 "RumourReasoner" "trueSets" "[J") (by decide +kernel)) (fun _ h9 => h9) rfl dX0_join_91 ?_
      refine lv_iload hx hb dX0_join_94 (lv_at hl 2 rfl) ?_
      refine lv_iload hx hb dX0_join_96 (lv_at hl 1 rfl) ?_
      refine lv_iadd hx hb dX0_join_98 ?_
      refine tc_int (y := nI ((b * 64) + i2)) (nI_add _ _) ?_
      refine ld_nl hx hb hK hP 3 2 rfl rfl (j := ((b * 64) + i2)) (by omega) (by decide) dX0_join_99 ?_
      refine tc_long (y := ts (b * 64 + i2)) (pt_out (Or.inl (by omega))) ?_
      refine puL_S (own := RX0) (As := [.int (nI k), .long (ts (a * 64 + i2)), .long (ts (b * 64 + i2))]) (rest := [.int (nI ((n * 64) + i2)), .ref (ad 3)]) ⟨hx, hb, hml, hown, hts⟩ (c_X0_joinTrue l D k (ts (a * 64 + i2)) (ts (b * 64 + i2)) hk) gX0_join_X0_joinTrue rfl ⟨rfl, rfl⟩ 3 rfl (by decide +kernel) ⟨Nat.le_of_ble_eq_true rfl, Nat.le_of_ble_eq_true rfl⟩ nilP (hK.sub (tys' := []) [] rfl) hS hl.1 rfl (Nat.le_of_ble_eq_true rfl) dX0_join_100 ⟨Nat.zero_le _, Nat.zero_le _⟩ (fun H locs hk1 hS => ?_)
      replace hP := keptP hP hk1
      refine st_nl hx hb hK hP hD hS 3 2 rfl rfl (j := ((n * 64) + i2)) (by omega) (by decide) dX0_join_103 (fun H locs hP hD hS => ?_)
      replace hP : va_P D vwCl (wC ad cI cZ cJ n kd sd (vp_updL (pt ts (n * 64) (fun w => jTL k (ts (a * 64 + w)) (ts (b * 64 + w))) i2) ((n * 64) + i2) (jTL k (ts (a * 64 + i2)) (ts (b * 64 + i2)))) (pt fs (n * 64) (fun w => jFL k (ts (a * 64 + w)) (fs (a * 64 + w)) (fs (b * 64 + w))) i2) tr on rp lt ru lg lp) H := by exact hP
      replace hD : va_D A (wC ad cI cZ cJ n kd sd (vp_updL (pt ts (n * 64) (fun w => jTL k (ts (a * 64 + w)) (ts (b * 64 + w))) i2) ((n * 64) + i2) (jTL k (ts (a * 64 + i2)) (ts (b * 64 + i2)))) (pt fs (n * 64) (fun w => jFL k (ts (a * 64 + w)) (fs (a * 64 + w)) (fs (b * 64 + w))) i2) tr on rp lt ru lg lp) := sameD rfl hD
      refine lv_aload_n hx hb dX0_join_104 rfl (lv_at hl 5 rfl) ?_
      refine va_get (D := D) (ci := 0) (v := .ref (ad 4)) (C := RX0) (T := TX0) (N := 12) hx hb hts hin0 hown hK hP 0 rfl rfl 4 (by decide) (hts (.fieldLink RX0 25 "RumourReasoner" "falseSets" "[J") (by decide +kernel)) (fun _ h9 => h9) rfl dX0_join_105 ?_
      refine lv_iload hx hb dX0_join_108 (lv_at hl 4 rfl) ?_
      refine lv_iload hx hb dX0_join_110 (lv_at hl 1 rfl) ?_
      refine lv_iadd hx hb dX0_join_112 ?_
      refine tc_int (y := nI ((n * 64) + i2)) (nI_add _ _) ?_
      refine lv_iload_n hx hb dX0_join_113 rfl (lv_at hl 6 rfl) ?_
      refine lv_lload hx hb dX0_join_114 (lv_at hl 0 rfl) ?_
      refine lv_aload_n hx hb dX0_join_116 rfl (lv_at hl 5 rfl) ?_
      refine va_get (D := D) (ci := 0) (v := .ref (ad 4)) (C := RX0) (T := TX0) (N := 12) hx hb hts hin0 hown hK hP 0 rfl rfl 4 (by decide) (hts (.fieldLink RX0 25 "RumourReasoner" "falseSets" "[J") (by decide +kernel)) (fun _ h9 => h9) rfl dX0_join_117 ?_
      refine lv_iload hx hb dX0_join_120 (lv_at hl 3 rfl) ?_
      refine lv_iload hx hb dX0_join_122 (lv_at hl 1 rfl) ?_
      refine lv_iadd hx hb dX0_join_124 ?_
      refine tc_int (y := nI ((a * 64) + i2)) (nI_add _ _) ?_
      refine ld_nl hx hb hK hP 4 2 rfl rfl (j := ((a * 64) + i2)) (by omega) (by decide) dX0_join_125 ?_
      refine tc_long (y := fs (a * 64 + i2)) (pt_out (Or.inl (by omega))) ?_
      refine lv_aload_n hx hb dX0_join_126 rfl (lv_at hl 5 rfl) ?_
      refine va_get (D := D) (ci := 0) (v := .ref (ad 4)) (C := RX0) (T := TX0) (N := 12) hx hb hts hin0 hown hK hP 0 rfl rfl 4 (by decide) (hts (.fieldLink RX0 25 "RumourReasoner" "falseSets" "[J") (by decide +kernel)) (fun _ h9 => h9) rfl dX0_join_127 ?_
      refine lv_iload hx hb dX0_join_130 (lv_at hl 2 rfl) ?_
      refine lv_iload hx hb dX0_join_132 (lv_at hl 1 rfl) ?_
      refine lv_iadd hx hb dX0_join_134 ?_
      refine tc_int (y := nI ((b * 64) + i2)) (nI_add _ _) ?_
      refine ld_nl hx hb hK hP 4 2 rfl rfl (j := ((b * 64) + i2)) (by omega) (by decide) dX0_join_135 ?_
      refine tc_long (y := fs (b * 64 + i2)) (pt_out (Or.inl (by omega))) ?_
      refine puL_S (own := RX0) (As := [.int (nI k), .long (ts (a * 64 + i2)), .long (fs (a * 64 + i2)), .long (fs (b * 64 + i2))]) (rest := [.int (nI ((n * 64) + i2)), .ref (ad 4)]) ⟨hx, hb, hml, hown, hts⟩ (c_X0_joinFalse l D k (ts (a * 64 + i2)) (fs (a * 64 + i2)) (fs (b * 64 + i2)) hk) gX0_join_X0_joinFalse rfl ⟨rfl, rfl⟩ 4 rfl (by decide +kernel) ⟨Nat.le_of_ble_eq_true rfl, Nat.le_of_ble_eq_true rfl⟩ nilP (hK.sub (tys' := []) [] rfl) hS hl.1 rfl (Nat.le_of_ble_eq_true rfl) dX0_join_136 ⟨Nat.zero_le _, Nat.zero_le _⟩ (fun H locs hk1 hS => ?_)
      replace hP := keptP hP hk1
      refine st_nl hx hb hK hP hD hS 4 2 rfl rfl (j := ((n * 64) + i2)) (by omega) (by decide) dX0_join_139 (fun H locs hP hD hS => ?_)
      replace hP : va_P D vwCl (wC ad cI cZ cJ n kd sd (vp_updL (pt ts (n * 64) (fun w => jTL k (ts (a * 64 + w)) (ts (b * 64 + w))) i2) ((n * 64) + i2) (jTL k (ts (a * 64 + i2)) (ts (b * 64 + i2)))) (vp_updL (pt fs (n * 64) (fun w => jFL k (ts (a * 64 + w)) (fs (a * 64 + w)) (fs (b * 64 + w))) i2) ((n * 64) + i2) (jFL k (ts (a * 64 + i2)) (fs (a * 64 + i2)) (fs (b * 64 + i2)))) tr on rp lt ru lg lp) H := by exact hP
      replace hD : va_D A (wC ad cI cZ cJ n kd sd (vp_updL (pt ts (n * 64) (fun w => jTL k (ts (a * 64 + w)) (ts (b * 64 + w))) i2) ((n * 64) + i2) (jTL k (ts (a * 64 + i2)) (ts (b * 64 + i2)))) (vp_updL (pt fs (n * 64) (fun w => jFL k (ts (a * 64 + w)) (fs (a * 64 + w)) (fs (b * 64 + w))) i2) ((n * 64) + i2) (jFL k (ts (a * 64 + i2)) (fs (a * 64 + i2)) (fs (b * 64 + i2)))) tr on rp lt ru lg lp) := sameD rfl hD
      refine lv_iinc (v := nI (i2 + 1)) (lv' := [(7, .int (nI (i2 + 1))), (8, .long (ts (a * 64 + i2))), (6, .int (nI (b * 64))), (5, .int (nI (a * 64))), (4, .int (nI (n * 64))), (0, .ref (ad 0)), (1, .int (nI k)), (2, .int (nI a)), (3, .int (nI b))]) hx hb dX0_join_140 hl (k := 1) rfl (iinc1 _) (by decide) rfl (fun ls hl => ?_)
      refine lv_goto (tgt := 59) hx hb dX0_join_143 (by decide) ?_
      exact ih_i2 (i2 + 1) (by omega) H locs ls hP hD hS (lv_sub hl [0, 2, 3, 4, 5, 6, 7, 8] rfl)
  exact key1 (64) 0 (by omega) _ _ ls hP hD hS (lv_sub hl [0, 1, 2, 3, 4, 5, 6, 7] rfl)

end
