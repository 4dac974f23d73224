section
variable (l : Launch) (D : va_G) (ad : Nat → Nat) (cI cZ cJ : ClassId) (n : Nat) (kd : Nat → Nat) (sd : Nat → Bool) (ts fs : Nat → Int64) (tr : Nat → Nat) (on : Nat → Bool) (rp : Nat → Nat) (lt : Nat) (ru : Nat → Option Nat) (lg : Nat) (lp : Int64)
theorem hin_X0_addFormula : ∀ w ∈ wsX00, w ∈ wsX0_addFormula := by first | exact fun _ h => List.mem_cons_of_mem _ (List.mem_append_right _ h) | exact fun _ h => List.mem_cons_of_mem _ (List.mem_append_left _ (List.mem_append_right _ h)) | exact fun _ h => List.mem_cons_of_mem _ (List.mem_append_left _ (List.mem_append_left _ (List.mem_append_right _ h))) | exact fun _ h => List.mem_cons_of_mem _ (List.mem_append_left _ (List.mem_append_left _ (List.mem_append_left _ (List.mem_append_right _ h)))) | decide +kernel
def rm_X0_addFormula : Room := { frames := 0, cells := 0, slots := 0, locals := 0 }
set_option maxHeartbeats 4000000 in
set_option maxRecDepth 100000 in
theorem c_X0_addFormula (k : Nat) (b : Bool) (hn40 : n < 40) : MuI l yX0_addFormula wsX0_addFormula rm_X0_addFormula D vwCl (wC ad cI cZ cJ n kd sd ts fs tr on rp lt ru lg lp) (fun _ => wC ad cI cZ cJ (n + 1) (va_up kd n k) (va_up sd n b) ts fs tr on rp lt ru lg lp) (tyC cI cZ cJ) [.ref (ad 0), .int (nI k), .int (bI b)] (nI n) := by
  refine MuI.of (cc := cX0_addFormula) (maxL := 4) (by decide) rfl (Nat.le_of_ble_eq_true rfl) (vp_nar_int _) ?_
  intro A p e s m args below meth c Q ls hx hb hml hown hts hP hK hD kret hl
  have hown : s.vm.findClass RX0 = some m.cls := hown
  have hl : lv_has ls 4 [(0, .ref (ad 0)), (1, .int (nI k)), (2, .int (bI b))] := hl
  have hS : va_S A s.heap s.heap [] := va_S.rf
  have hin0 : ∀ w ∈ u_ws RX0 TX0 12, w ∈ wsX0_addFormula := hin_X0_addFormula
  refine lv_aload_n hx hb dX0_addFormula_0 rfl (lv_at hl 0 rfl) ?_
  refine va_get (D := D) (ci := 0) (v := .int (nI n)) (C := RX0) (T := TX0) (N := 12) hx hb hts hin0 hown hK hP 0 rfl rfl 0 (by decide) (hts (.fieldLink RX0 9 "RumourReasoner" "count" "I") (by decide +kernel)) (fun _ h9 => h9) rfl dX0_addFormula_1 ?_
  refine lv_istore_n (lv' := [(3, .int (nI n)), (0, .ref (ad 0)), (1, .int (nI k)), (2, .int (bI b))]) hx hb dX0_addFormula_4 rfl hl (by decide) rfl (fun ls hl => ?_)
  refine lv_aload_n hx hb dX0_addFormula_5 rfl (lv_at hl 1 rfl) ?_
  refine va_get (D := D) (ci := 0) (v := .ref (ad 1)) (C := RX0) (T := TX0) (N := 12) hx hb hts hin0 hown hK hP 0 rfl rfl 1 (by decide) (hts (.fieldLink RX0 13 "RumourReasoner" "kinds" "[I") (by decide +kernel)) (fun _ h9 => h9) rfl dX0_addFormula_6 ?_
  refine lv_iload_n hx hb dX0_addFormula_9 rfl (lv_at hl 0 rfl) ?_
  refine lv_iload_n hx hb dX0_addFormula_10 rfl (lv_at hl 2 rfl) ?_
  refine st_ni hx hb hK hP hD hS 1 0 rfl rfl (j := n) (by omega) (by decide) dX0_addFormula_11 (fun H locs hP hD hS => ?_)
  replace hP : va_P D vwCl (wC ad cI cZ cJ n (va_up kd n k) sd ts fs tr on rp lt ru lg lp) H := by rw [upN] at hP; exact hP
  replace hD : va_D A (wC ad cI cZ cJ n (va_up kd n k) sd ts fs tr on rp lt ru lg lp) := sameD2 hD rfl
  refine lv_aload_n hx hb dX0_addFormula_12 rfl (lv_at hl 1 rfl) ?_
  refine va_get (D := D) (ci := 0) (v := .ref (ad 2)) (C := RX0) (T := TX0) (N := 12) hx hb hts hin0 hown hK hP 0 rfl rfl 2 (by decide) (hts (.fieldLink RX0 17 "RumourReasoner" "steady" "[Z") (by decide +kernel)) (fun _ h9 => h9) rfl dX0_addFormula_13 ?_
  refine lv_iload_n hx hb dX0_addFormula_16 rfl (lv_at hl 0 rfl) ?_
  refine lv_iload_n hx hb dX0_addFormula_17 rfl (lv_at hl 3 rfl) ?_
  refine st_nz hx hb hK hP hD hS 2 1 rfl rfl (j := n) (by omega) (by decide) dX0_addFormula_18 (fun H locs hP hD hS => ?_)
  replace hP : va_P D vwCl (wC ad cI cZ cJ n (va_up kd n k) (va_up sd n b) ts fs tr on rp lt ru lg lp) H := by rw [bI_nar, upB] at hP; exact hP
  replace hD : va_D A (wC ad cI cZ cJ n (va_up kd n k) (va_up sd n b) ts fs tr on rp lt ru lg lp) := sameD2 hD rfl
  refine lv_aload_n hx hb dX0_addFormula_19 rfl (lv_at hl 1 rfl) ?_
  refine lv_dup hx hb dX0_addFormula_20 rfl ?_
  refine va_get (D := D) (ci := 0) (v := .int (nI n)) (C := RX0) (T := TX0) (N := 12) hx hb hts hin0 hown hK hP 0 rfl rfl 0 (by decide) (hts (.fieldLink RX0 9 "RumourReasoner" "count" "I") (by decide +kernel)) (fun _ h9 => h9) rfl dX0_addFormula_21 ?_
  refine lv_iconst (v := nI 1) hx hb dX0_addFormula_24 (by decide) ?_
  refine lv_iadd hx hb dX0_addFormula_25 ?_
  refine tc_int (y := nI (n + 1)) (nI_add _ _) ?_
  refine va_put (D := D) (ci := 0) (v := .int (nI (n + 1))) (ty := .int) (C := RX0) (T := TX0) (N := 12) hx hb hts hin0 tyX0 tyX0_ok nmX0 hown hK hP hD hS 0 rfl rfl 0 (by decide) (hts (.fieldLink RX0 9 "RumourReasoner" "count" "I") (by decide +kernel)) (fun _ h9 => h9) rfl (by decide +kernel) rfl rfl (Nat.le_of_ble_eq_true rfl) dX0_addFormula_26 (fun H locs hP hD hS => ?_)
  have hP : va_P D vwCl (wC ad cI cZ cJ ((n + 1)) (va_up kd n k) (va_up sd n b) ts fs tr on rp lt ru lg lp) H := hP
  have hD : va_D A (wC ad cI cZ cJ ((n + 1)) (va_up kd n k) (va_up sd n b) ts fs tr on rp lt ru lg lp) := hD
  refine lv_iload_n hx hb dX0_addFormula_29 rfl (lv_at hl 0 rfl) ?_
  exact kret _ (fun _ => 0) _ _ _ _ (rfl) hP hS dX0_addFormula_30

theorem hin_X0_setTrust : ∀ w ∈ wsX00, w ∈ wsX0_setTrust := by first | exact fun _ h => List.mem_cons_of_mem _ (List.mem_append_right _ h) | exact fun _ h => List.mem_cons_of_mem _ (List.mem_append_left _ (List.mem_append_right _ h)) | exact fun _ h => List.mem_cons_of_mem _ (List.mem_append_left _ (List.mem_append_left _ (List.mem_append_right _ h))) | exact fun _ h => List.mem_cons_of_mem _ (List.mem_append_left _ (List.mem_append_left _ (List.mem_append_left _ (List.mem_append_right _ h)))) | decide +kernel
def rm_X0_setTrust : Room := { frames := 1, cells := 0, slots := 0, locals := 20 }
set_option maxHeartbeats 4000000 in
set_option maxRecDepth 100000 in
theorem c_X0_setTrust (a t : Nat) (ha : a < 6) (ht100 : 1 ≤ t ∧ t ≤ 100) : MuI l yX0_setTrust wsX0_setTrust rm_X0_setTrust D vwCl (wC ad cI cZ cJ n kd sd ts fs tr on rp lt ru lg lp) (fun _ => wC ad cI cZ cJ n kd sd ts fs (va_up tr a t) on rp lt ru lg lp) (tyC cI cZ cJ) [.ref (ad 0), .int (nI a), .int (nI t)] (nI (tr a)) := by
  refine MuI.of (cc := cX0_setTrust) (maxL := 4) (by decide) rfl (Nat.le_of_ble_eq_true rfl) (vp_nar_int _) ?_
  intro A p e s m args below meth c Q ls hx hb hml hown hts hP hK hD kret hl
  have hown : s.vm.findClass RX0 = some m.cls := hown
  have hl : lv_has ls 4 [(0, .ref (ad 0)), (1, .int (nI a)), (2, .int (nI t))] := hl
  have hS : va_S A s.heap s.heap [] := va_S.rf
  have hin0 : ∀ w ∈ u_ws RX0 TX0 12, w ∈ wsX0_setTrust := hin_X0_setTrust
  refine lv_iload_n hx hb dX0_setTrust_0 rfl (lv_at hl 1 rfl) ?_
  refine puV_S (own := RX0) (As := [.int (nI a)]) (rest := []) ⟨hx, hb, hml, hown, hts⟩ (c_X0_requireSource l D a (by omega)) gX0_setTrust_X0_requireSource rfl ⟨rfl, rfl⟩ 1 rfl (by decide +kernel) ⟨Nat.le_of_ble_eq_true rfl, Nat.le_of_ble_eq_true rfl⟩ nilP (hK.sub (tys' := []) [] rfl) hS hl.1 rfl (Nat.le_of_ble_eq_true rfl) dX0_setTrust_1 ⟨Nat.zero_le _, Nat.zero_le _⟩ (fun H locs hk1 hS => ?_)
  replace hP := keptP hP hk1
  refine lv_iload_n hx hb dX0_setTrust_4 rfl (lv_at hl 2 rfl) ?_
  refine puV_S (own := RX0) (As := [.int (nI t)]) (rest := []) ⟨hx, hb, hml, hown, hts⟩ (c_X0_requireTrust l D t (by omega)) gX0_setTrust_X0_requireTrust rfl ⟨rfl, rfl⟩ 1 rfl (by decide +kernel) ⟨Nat.le_of_ble_eq_true rfl, Nat.le_of_ble_eq_true rfl⟩ nilP (hK.sub (tys' := []) [] rfl) hS hl.1 rfl (Nat.le_of_ble_eq_true rfl) dX0_setTrust_5 ⟨Nat.zero_le _, Nat.zero_le _⟩ (fun H locs hk1 hS => ?_)
  replace hP := keptP hP hk1
  refine lv_aload_n hx hb dX0_setTrust_8 rfl (lv_at hl 0 rfl) ?_
  refine va_get (D := D) (ci := 0) (v := .ref (ad 5)) (C := RX0) (T := TX0) (N := 12) hx hb hts hin0 hown hK hP 0 rfl rfl 5 (by decide) (hts (.fieldLink RX0 28 "RumourReasoner" "trusts" "[I") (by decide +kernel)) (fun _ h9 => h9) rfl dX0_setTrust_9 ?_
  refine lv_iload_n hx hb dX0_setTrust_12 rfl (lv_at hl 1 rfl) ?_
  refine ld_ni hx hb hK hP 5 0 rfl rfl (j := a) (by omega) (by decide) dX0_setTrust_13 ?_
  refine lv_istore_n (lv' := [(3, .int (nI (tr a))), (0, .ref (ad 0)), (1, .int (nI a)), (2, .int (nI t))]) hx hb dX0_setTrust_14 rfl hl (by decide) rfl (fun ls hl => ?_)
  refine lv_aload_n hx hb dX0_setTrust_15 rfl (lv_at hl 1 rfl) ?_
  refine va_get (D := D) (ci := 0) (v := .ref (ad 5)) (C := RX0) (T := TX0) (N := 12) hx hb hts hin0 hown hK hP 0 rfl rfl 5 (by decide) (hts (.fieldLink RX0 28 "RumourReasoner" "trusts" "[I") (by decide +kernel)) (fun _ h9 => h9) rfl dX0_setTrust_16 ?_
  refine lv_iload_n hx hb dX0_setTrust_19 rfl (lv_at hl 2 rfl) ?_
  refine lv_iload_n hx hb dX0_setTrust_20 rfl (lv_at hl 3 rfl) ?_
  refine st_ni hx hb hK hP hD hS 5 0 rfl rfl (j := a) (by omega) (by decide) dX0_setTrust_21 (fun H locs hP hD hS => ?_)
  replace hP : va_P D vwCl (wC ad cI cZ cJ n kd sd ts fs (va_up tr a t) on rp lt ru lg lp) H := by rw [upN] at hP; exact hP
  replace hD : va_D A (wC ad cI cZ cJ n kd sd ts fs (va_up tr a t) on rp lt ru lg lp) := sameD2 hD rfl
  refine lv_iload_n hx hb dX0_setTrust_22 rfl (lv_at hl 0 rfl) ?_
  exact kret _ (fun _ => 0) _ _ _ _ (rfl) hP hS dX0_setTrust_23

theorem hin_X0_setLeastTrust : ∀ w ∈ wsX00, w ∈ wsX0_setLeastTrust := by first | exact fun _ h => List.mem_cons_of_mem _ (List.mem_append_right _ h) | exact fun _ h => List.mem_cons_of_mem _ (List.mem_append_left _ (List.mem_append_right _ h)) | exact fun _ h => List.mem_cons_of_mem _ (List.mem_append_left _ (List.mem_append_left _ (List.mem_append_right _ h))) | exact fun _ h => List.mem_cons_of_mem _ (List.mem_append_left _ (List.mem_append_left _ (List.mem_append_left _ (List.mem_append_right _ h)))) | decide +kernel
def rm_X0_setLeastTrust : Room := { frames := 1, cells := 0, slots := 0, locals := 20 }
set_option maxHeartbeats 4000000 in
set_option maxRecDepth 100000 in
theorem c_X0_setLeastTrust (t : Nat) (ht100 : 1 ≤ t ∧ t ≤ 100) : MuI l yX0_setLeastTrust wsX0_setLeastTrust rm_X0_setLeastTrust D vwCl (wC ad cI cZ cJ n kd sd ts fs tr on rp lt ru lg lp) (fun _ => wC ad cI cZ cJ n kd sd ts fs tr on rp t ru lg lp) (tyC cI cZ cJ) [.ref (ad 0), .int (nI t)] (nI lt) := by
  refine MuI.of (cc := cX0_setLeastTrust) (maxL := 3) (by decide) rfl (Nat.le_of_ble_eq_true rfl) (vp_nar_int _) ?_
  intro A p e s m args below meth c Q ls hx hb hml hown hts hP hK hD kret hl
  have hown : s.vm.findClass RX0 = some m.cls := hown
  have hl : lv_has ls 3 [(0, .ref (ad 0)), (1, .int (nI t))] := hl
  have hS : va_S A s.heap s.heap [] := va_S.rf
  have hin0 : ∀ w ∈ u_ws RX0 TX0 12, w ∈ wsX0_setLeastTrust := hin_X0_setLeastTrust
  refine lv_iload_n hx hb dX0_setLeastTrust_0 rfl (lv_at hl 1 rfl) ?_
  refine puV_S (own := RX0) (As := [.int (nI t)]) (rest := []) ⟨hx, hb, hml, hown, hts⟩ (c_X0_requireTrust l D t (by omega)) gX0_setLeastTrust_X0_requireTrust rfl ⟨rfl, rfl⟩ 1 rfl (by decide +kernel) ⟨Nat.le_of_ble_eq_true rfl, Nat.le_of_ble_eq_true rfl⟩ nilP (hK.sub (tys' := []) [] rfl) hS hl.1 rfl (Nat.le_of_ble_eq_true rfl) dX0_setLeastTrust_1 ⟨Nat.zero_le _, Nat.zero_le _⟩ (fun H locs hk1 hS => ?_)
  replace hP := keptP hP hk1
  refine lv_aload_n hx hb dX0_setLeastTrust_4 rfl (lv_at hl 0 rfl) ?_
  refine va_get (D := D) (ci := 0) (v := .int (nI lt)) (C := RX0) (T := TX0) (N := 12) hx hb hts hin0 hown hK hP 0 rfl rfl 8 (by decide) (hts (.fieldLink RX0 37 "RumourReasoner" "leastTrust" "I") (by decide +kernel)) (fun _ h9 => h9) rfl dX0_setLeastTrust_5 ?_
  refine lv_istore_n (lv' := [(2, .int (nI lt)), (0, .ref (ad 0)), (1, .int (nI t))]) hx hb dX0_setLeastTrust_8 rfl hl (by decide) rfl (fun ls hl => ?_)
  refine lv_aload_n hx hb dX0_setLeastTrust_9 rfl (lv_at hl 1 rfl) ?_
  refine lv_iload_n hx hb dX0_setLeastTrust_10 rfl (lv_at hl 2 rfl) ?_
  refine va_put (D := D) (ci := 0) (v := .int (nI t)) (ty := .int) (C := RX0) (T := TX0) (N := 12) hx hb hts hin0 tyX0 tyX0_ok nmX0 hown hK hP hD hS 0 rfl rfl 8 (by decide) (hts (.fieldLink RX0 37 "RumourReasoner" "leastTrust" "I") (by decide +kernel)) (fun _ h9 => h9) rfl (by decide +kernel) rfl rfl (Nat.le_of_ble_eq_true rfl) dX0_setLeastTrust_11 (fun H locs hP hD hS => ?_)
  have hP : va_P D vwCl (wC ad cI cZ cJ n kd sd ts fs tr on rp t ru lg lp) H := hP
  have hD : va_D A (wC ad cI cZ cJ n kd sd ts fs tr on rp t ru lg lp) := hD
  refine lv_iload_n hx hb dX0_setLeastTrust_14 rfl (lv_at hl 0 rfl) ?_
  exact kret _ (fun _ => 0) _ _ _ _ (rfl) hP hS dX0_setLeastTrust_15

theorem hin_X0_let : ∀ w ∈ wsX00, w ∈ wsX0_let := by first | exact fun _ h => List.mem_cons_of_mem _ (List.mem_append_right _ h) | exact fun _ h => List.mem_cons_of_mem _ (List.mem_append_left _ (List.mem_append_right _ h)) | exact fun _ h => List.mem_cons_of_mem _ (List.mem_append_left _ (List.mem_append_left _ (List.mem_append_right _ h))) | exact fun _ h => List.mem_cons_of_mem _ (List.mem_append_left _ (List.mem_append_left _ (List.mem_append_left _ (List.mem_append_right _ h)))) | decide +kernel
def rm_X0_let : Room := { frames := 1, cells := 0, slots := 0, locals := 21 }
set_option maxHeartbeats 4000000 in
set_option maxRecDepth 100000 in
theorem c_X0_let (hO : OKC n tr rp lt lg ru) (a : Nat) (b : Bool) (ha : a < 6) : MuI l yX0_let wsX0_let rm_X0_let D vwCl (wC ad cI cZ cJ n kd sd ts fs tr on rp lt ru lg lp) (fun _ => wC ad cI cZ cJ n kd sd ts fs tr (va_up on a b) rp lt ru lg lp) (tyC cI cZ cJ) [.ref (ad 0), .int (nI a), .int (bI b)] (bI (hdB tr (va_up on a b) lt a)) := by
  refine MuI.of (cc := cX0_let) (maxL := 3) (by decide) rfl (Nat.le_of_ble_eq_true rfl) (bI_n _) ?_
  intro A p e s m args below meth c Q ls hx hb hml hown hts hP hK hD kret hl
  have hown : s.vm.findClass RX0 = some m.cls := hown
  have hl : lv_has ls 3 [(0, .ref (ad 0)), (1, .int (nI a)), (2, .int (bI b))] := hl
  have hS : va_S A s.heap s.heap [] := va_S.rf
  have hin0 : ∀ w ∈ u_ws RX0 TX0 12, w ∈ wsX0_let := hin_X0_let
  refine lv_iload_n hx hb dX0_let_0 rfl (lv_at hl 1 rfl) ?_
  refine puV_S (own := RX0) (As := [.int (nI a)]) (rest := []) ⟨hx, hb, hml, hown, hts⟩ (c_X0_requireSource l D a (by omega)) gX0_let_X0_requireSource rfl ⟨rfl, rfl⟩ 1 rfl (by decide +kernel) ⟨Nat.le_of_ble_eq_true rfl, Nat.le_of_ble_eq_true rfl⟩ nilP (hK.sub (tys' := []) [] rfl) hS hl.1 rfl (Nat.le_of_ble_eq_true rfl) dX0_let_1 ⟨Nat.zero_le _, Nat.zero_le _⟩ (fun H locs hk1 hS => ?_)
  replace hP := keptP hP hk1
  refine lv_aload_n hx hb dX0_let_4 rfl (lv_at hl 0 rfl) ?_
  refine va_get (D := D) (ci := 0) (v := .ref (ad 6)) (C := RX0) (T := TX0) (N := 12) hx hb hts hin0 hown hK hP 0 rfl rfl 6 (by decide) (hts (.fieldLink RX0 31 "RumourReasoner" "on" "[Z") (by decide +kernel)) (fun _ h9 => h9) rfl dX0_let_5 ?_
  refine lv_iload_n hx hb dX0_let_8 rfl (lv_at hl 1 rfl) ?_
  refine lv_iload_n hx hb dX0_let_9 rfl (lv_at hl 2 rfl) ?_
  refine st_nz hx hb hK hP hD hS 6 1 rfl rfl (j := a) (by omega) (by decide) dX0_let_10 (fun H locs hP hD hS => ?_)
  replace hP : va_P D vwCl (wC ad cI cZ cJ n kd sd ts fs tr (va_up on a b) rp lt ru lg lp) H := by rw [bI_nar, upB] at hP; exact hP
  replace hD : va_D A (wC ad cI cZ cJ n kd sd ts fs tr (va_up on a b) rp lt ru lg lp) := sameD2 hD rfl
  refine lv_aload_n hx hb dX0_let_11 rfl (lv_at hl 0 rfl) ?_
  refine lv_iload_n hx hb dX0_let_12 rfl (lv_at hl 1 rfl) ?_
  refine puI_V (own := RX0) (As := [.int (nI a)]) (rest := []) (C := RX0) (ci := 0) (q0 := 0) ⟨hx, hb, hml, hown, hts⟩ (c_X0_isHeard l D ad cI cZ cJ n kd sd ts fs tr (va_up on a b) rp lt ru lg lp hO a (by omega)) gX0_let_X0_isHeard rfl ⟨rfl, rfl⟩ 1 rfl (by decide +kernel) ⟨Nat.le_of_ble_eq_true rfl, Nat.le_of_ble_eq_true rfl⟩ hP hK rfl rfl rfl hS hl.1 rfl (Nat.le_of_ble_eq_true rfl) dX0_let_13 ⟨Nat.zero_le _, Nat.zero_le _⟩ (fun H locs hk1 hS => ?_)
  replace hP := keptP hP hk1
  exact kret _ (fun _ => 0) _ _ _ _ (rfl) hP hS dX0_let_16

end
