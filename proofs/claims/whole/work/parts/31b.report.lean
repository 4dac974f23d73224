section
variable (l : Launch) (D : va_G) (ad : Nat → Nat) (cI cZ cJ : ClassId) (n : Nat) (kd : Nat → Nat) (sd : Nat → Bool) (ts fs : Nat → Int64) (tr : Nat → Nat) (on : Nat → Bool) (rp : Nat → Nat) (lt : Nat) (ru : Nat → Option Nat) (lg : Nat) (lp : Int64)
theorem hin_X0_report : ∀ w ∈ wsX00, w ∈ wsX0_report := by first | exact fun _ h => List.mem_cons_of_mem _ (List.mem_append_right _ h) | exact fun _ h => List.mem_cons_of_mem _ (List.mem_append_left _ (List.mem_append_right _ h)) | exact fun _ h => List.mem_cons_of_mem _ (List.mem_append_left _ (List.mem_append_left _ (List.mem_append_right _ h))) | exact fun _ h => List.mem_cons_of_mem _ (List.mem_append_left _ (List.mem_append_left _ (List.mem_append_left _ (List.mem_append_right _ h)))) | decide +kernel
def rm_X0_report : Room := { frames := 2, cells := 0, slots := 0, locals := 41 }
set_option maxHeartbeats 4000000 in
set_option maxRecDepth 100000 in
theorem c_X0_report (hO : OKC n tr rp lt lg ru) (a b v : Nat) (ha : a < 6) (hb6 : b < 6) (hv : v < 4) : MuI l yX0_report wsX0_report rm_X0_report D vwCl (wC ad cI cZ cJ n kd sd ts fs tr on rp lt ru lg lp) (fun _ => wC ad cI cZ cJ n kd sd ts fs tr on (va_up rp a (rpU (rp a) b v)) lt ru lg lp) (tyC cI cZ cJ) [.ref (ad 0), .int (nI a), .int (nI b), .int (nI v)] (nI (dg (rp a) b)) := by
  refine MuI.of (cc := cX0_report) (maxL := 6) (by decide) rfl (Nat.le_of_ble_eq_true rfl) (vp_nar_int _) ?_
  intro A p e s m args below meth c Q ls hx hb hml hown hts hP hK hD kret hl
  have hown : s.vm.findClass RX0 = some m.cls := hown
  have hl : lv_has ls 6 [(0, .ref (ad 0)), (1, .int (nI a)), (2, .int (nI b)), (3, .int (nI v))] := hl
  have hS : va_S A s.heap s.heap [] := va_S.rf
  have hin0 : ∀ w ∈ u_ws RX0 TX0 12, w ∈ wsX0_report := hin_X0_report
  refine lv_iload_n hx hb dX0_report_0 rfl (lv_at hl 1 rfl) ?_
  refine puV_S (own := RX0) (As := [.int (nI a)]) (rest := []) ⟨hx, hb, hml, hown, hts⟩ (c_X0_requireSource l D a (by omega)) gX0_report_X0_requireSource rfl ⟨rfl, rfl⟩ 1 rfl (by decide +kernel) ⟨Nat.le_of_ble_eq_true rfl, Nat.le_of_ble_eq_true rfl⟩ nilP (hK.sub (tys' := []) [] rfl) hS hl.1 rfl (Nat.le_of_ble_eq_true rfl) dX0_report_1 ⟨Nat.zero_le _, Nat.zero_le _⟩ (fun H locs hk1 hS => ?_)
  replace hP := keptP hP hk1
  refine lv_iload_n hx hb dX0_report_4 rfl (lv_at hl 2 rfl) ?_
  refine puV_S (own := RX0) (As := [.int (nI b)]) (rest := []) ⟨hx, hb, hml, hown, hts⟩ (c_X0_requireAtom l D b (by omega)) gX0_report_X0_requireAtom rfl ⟨rfl, rfl⟩ 1 rfl (by decide +kernel) ⟨Nat.le_of_ble_eq_true rfl, Nat.le_of_ble_eq_true rfl⟩ nilP (hK.sub (tys' := []) [] rfl) hS hl.1 rfl (Nat.le_of_ble_eq_true rfl) dX0_report_5 ⟨Nat.zero_le _, Nat.zero_le _⟩ (fun H locs hk1 hS => ?_)
  replace hP := keptP hP hk1
  refine lv_iload_n hx hb dX0_report_8 rfl (lv_at hl 3 rfl) ?_
  refine puV_S (own := RX0) (As := [.int (nI v)]) (rest := []) ⟨hx, hb, hml, hown, hts⟩ (c_X0_requireValue l D v (by omega)) gX0_report_X0_requireValue rfl ⟨rfl, rfl⟩ 1 rfl (by decide +kernel) ⟨Nat.le_of_ble_eq_true rfl, Nat.le_of_ble_eq_true rfl⟩ nilP (hK.sub (tys' := []) [] rfl) hS hl.1 rfl (Nat.le_of_ble_eq_true rfl) dX0_report_9 ⟨Nat.zero_le _, Nat.zero_le _⟩ (fun H locs hk1 hS => ?_)
  replace hP := keptP hP hk1
  refine lv_aload_n hx hb dX0_report_12 rfl (lv_at hl 0 rfl) ?_
  refine va_get (D := D) (ci := 0) (v := .ref (ad 7)) (C := RX0) (T := TX0) (N := 12) hx hb hts hin0 hown hK hP 0 rfl rfl 7 (by decide) (hts (.fieldLink RX0 34 "RumourReasoner" "reports" "[I") (by decide +kernel)) (fun _ h9 => h9) rfl dX0_report_13 ?_
  refine lv_iload_n hx hb dX0_report_16 rfl (lv_at hl 1 rfl) ?_
  refine ld_ni hx hb hK hP 7 0 rfl rfl (j := a) (by omega) (by decide) dX0_report_17 ?_
  refine lv_iload_n hx hb dX0_report_18 rfl (lv_at hl 2 rfl) ?_
  refine puI_S (own := RX0) (As := [.int (nI (rp a)), .int (nI b)]) (rest := []) ⟨hx, hb, hml, hown, hts⟩ (c_X0_valueIn l D (rp a) b (hO.2.2.1 a ha) (by omega)) gX0_report_X0_valueIn rfl ⟨rfl, rfl⟩ 2 rfl (by decide +kernel) ⟨Nat.le_of_ble_eq_true rfl, Nat.le_of_ble_eq_true rfl⟩ nilP (hK.sub (tys' := []) [] rfl) hS hl.1 rfl (Nat.le_of_ble_eq_true rfl) dX0_report_19 ⟨Nat.zero_le _, Nat.zero_le _⟩ (fun H locs hk1 hS => ?_)
  replace hP := keptP hP hk1
  refine lv_istore (lv' := [(4, .int (nI (dg (rp a) b))), (0, .ref (ad 0)), (1, .int (nI a)), (2, .int (nI b)), (3, .int (nI v))]) hx hb dX0_report_22 hl (by decide) rfl (fun ls hl => ?_)
  refine lv_aload_n hx hb dX0_report_24 rfl (lv_at hl 1 rfl) ?_
  refine va_get (D := D) (ci := 0) (v := .ref (ad 7)) (C := RX0) (T := TX0) (N := 12) hx hb hts hin0 hown hK hP 0 rfl rfl 7 (by decide) (hts (.fieldLink RX0 34 "RumourReasoner" "reports" "[I") (by decide +kernel)) (fun _ h9 => h9) rfl dX0_report_25 ?_
  refine lv_iload_n hx hb dX0_report_28 rfl (lv_at hl 2 rfl) ?_
  refine ld_ni hx hb hK hP 7 0 rfl rfl (j := a) (by omega) (by decide) dX0_report_29 ?_
  refine lv_iconst (v := nI 3) hx hb dX0_report_30 (by decide) ?_
  refine lv_iload_n hx hb dX0_report_31 rfl (lv_at hl 3 rfl) ?_
  refine puI_S (own := RX0) (As := [.int (nI b)]) (rest := [.int (nI 3), .int (nI (rp a))]) ⟨hx, hb, hml, hown, hts⟩ (c_X0_placeOf l D b (by omega)) gX0_report_X0_placeOf rfl ⟨rfl, rfl⟩ 1 rfl (by decide +kernel) ⟨Nat.le_of_ble_eq_true rfl, Nat.le_of_ble_eq_true rfl⟩ nilP (hK.sub (tys' := []) [] rfl) hS hl.1 rfl (Nat.le_of_ble_eq_true rfl) dX0_report_32 ⟨Nat.zero_le _, Nat.zero_le _⟩ (fun H locs hk1 hS => ?_)
  replace hP := keptP hP hk1
  refine lv_ishl hx hb dX0_report_35 ?_
  refine tc_int (y := nI (3 * 2 ^ (2 * (5 - b)))) (shlP (by decide)) ?_
  refine lv_iconst (v := (-1)) hx hb dX0_report_36 (by decide) ?_
  refine lv_ixor hx hb dX0_report_37 ?_
  refine lv_iand hx hb dX0_report_38 ?_
  refine tc_int (y := nI (rp a &&& (4095 ^^^ (3 * 2 ^ (2 * (5 - b)))))) (andnot (k := 12) (hO.2.2.1 a ha)) ?_
  refine lv_istore (lv' := [(5, .int (nI (rp a &&& (4095 ^^^ (3 * 2 ^ (2 * (5 - b))))))), (4, .int (nI (dg (rp a) b))), (0, .ref (ad 0)), (1, .int (nI a)), (2, .int (nI b)), (3, .int (nI v))]) hx hb dX0_report_39 hl (by decide) rfl (fun ls hl => ?_)
  refine lv_aload_n hx hb dX0_report_41 rfl (lv_at hl 2 rfl) ?_
  refine va_get (D := D) (ci := 0) (v := .ref (ad 7)) (C := RX0) (T := TX0) (N := 12) hx hb hts hin0 hown hK hP 0 rfl rfl 7 (by decide) (hts (.fieldLink RX0 34 "RumourReasoner" "reports" "[I") (by decide +kernel)) (fun _ h9 => h9) rfl dX0_report_42 ?_
  refine lv_iload_n hx hb dX0_report_45 rfl (lv_at hl 3 rfl) ?_
  refine lv_iload hx hb dX0_report_46 (lv_at hl 0 rfl) ?_
  refine lv_iload_n hx hb dX0_report_48 rfl (lv_at hl 5 rfl) ?_
  refine lv_iload_n hx hb dX0_report_49 rfl (lv_at hl 4 rfl) ?_
  refine puI_S (own := RX0) (As := [.int (nI b)]) (rest := [.int (nI v), .int (nI (rp a &&& (4095 ^^^ (3 * 2 ^ (2 * (5 - b)))))), .int (nI a), .ref (ad 7)]) ⟨hx, hb, hml, hown, hts⟩ (c_X0_placeOf l D b (by omega)) gX0_report_X0_placeOf rfl ⟨rfl, rfl⟩ 1 rfl (by decide +kernel) ⟨Nat.le_of_ble_eq_true rfl, Nat.le_of_ble_eq_true rfl⟩ nilP (hK.sub (tys' := []) [] rfl) hS hl.1 rfl (Nat.le_of_ble_eq_true rfl) dX0_report_50 ⟨Nat.zero_le _, Nat.zero_le _⟩ (fun H locs hk1 hS => ?_)
  replace hP := keptP hP hk1
  refine lv_ishl hx hb dX0_report_53 ?_
  refine tc_int (y := nI (v * 2 ^ (2 * (5 - b)))) (shlP hv) ?_
  refine lv_ior hx hb dX0_report_54 ?_
  refine tc_int (y := nI (rpU (rp a) b v)) (fa_or _ _) ?_
  refine st_ni hx hb hK hP hD hS 7 0 rfl rfl (j := a) (by omega) (by decide) dX0_report_55 (fun H locs hP hD hS => ?_)
  replace hP : va_P D vwCl (wC ad cI cZ cJ n kd sd ts fs tr on (va_up rp a (rpU (rp a) b v)) lt ru lg lp) H := by rw [upN] at hP; exact hP
  replace hD : va_D A (wC ad cI cZ cJ n kd sd ts fs tr on (va_up rp a (rpU (rp a) b v)) lt ru lg lp) := sameD2 hD rfl
  refine lv_iload hx hb dX0_report_56 (lv_at hl 1 rfl) ?_
  exact kret _ (fun _ => 0) _ _ _ _ (rfl) hP hS dX0_report_58

end
