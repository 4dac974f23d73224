section
variable (l : Launch) (D : va_G) (bd : Nat → Nat) (cI cZ cJ : ClassId) (th : Int32) (n : Nat) (kd fi se : Nat → Nat) (sd : Nat → Bool) (tr : Nat → Nat) (on : Nat → Bool) (sy : Nat → Nat) (lt : Nat) (ru : Nat → Option Nat) (lg : Nat) (rs : Nat → Int32)
theorem hin_X1_formulaCount : ∀ w ∈ wsX10, w ∈ wsX1_formulaCount := by first | exact fun _ h => List.mem_cons_of_mem _ (List.mem_append_right _ h) | exact fun _ h => List.mem_cons_of_mem _ (List.mem_append_left _ (List.mem_append_right _ h)) | exact fun _ h => List.mem_cons_of_mem _ (List.mem_append_left _ (List.mem_append_left _ (List.mem_append_right _ h))) | exact fun _ h => List.mem_cons_of_mem _ (List.mem_append_left _ (List.mem_append_left _ (List.mem_append_left _ (List.mem_append_right _ h)))) | decide +kernel
def rm_X1_formulaCount : Room := { frames := 0, cells := 0, slots := 0, locals := 0 }
set_option maxHeartbeats 4000000 in
set_option maxRecDepth 100000 in
theorem c_X1_formulaCount  : MuI l yX1_formulaCount wsX1_formulaCount rm_X1_formulaCount D vwCl (wM bd cI cZ cJ th n kd fi se sd tr on sy lt ru lg rs) (fun u => wM bd cI cZ cJ (nI 0) n kd fi se sd tr on sy lt ru lg u) (tyC cI cZ cJ) [.ref (bd 0)] (nI n) := by
  refine MuI.of (cc := cX1_formulaCount) (maxL := 1) (by decide) rfl (Nat.le_of_ble_eq_true rfl) (vp_nar_int _) ?_
  intro A p e s m args below meth c Q ls hx hb hml hown hts hP hK hD kret hl
  have hown : s.vm.findClass RX1 = some m.cls := hown
  have hl : lv_has ls 1 [(0, .ref (bd 0))] := hl
  have hS : va_S A s.heap s.heap [] := va_S.rf
  have hin0 : ∀ w ∈ u_ws RX1 TX1 13, w ∈ wsX1_formulaCount := hin_X1_formulaCount
  refine lv_aload_n hx hb dX1_formulaCount_0 rfl (lv_at hl 0 rfl) ?_
  refine lv_iconst (v := nI 0) hx hb dX1_formulaCount_1 (by decide) ?_
  refine va_put (D := D) (ci := 1) (v := .int (nI 0)) (ty := .int) (C := RX1) (T := TX1) (N := 13) hx hb hts hin0 tyX1 tyX1_ok nmX1 hown hK hP hD hS 0 rfl rfl 0 (by decide) (hts (.fieldLink RX1 45 "RumourReasonerModel" "thrown" "I") (by decide +kernel)) (fun _ h9 => h9) rfl (by decide +kernel) rfl rfl (Nat.le_of_ble_eq_true rfl) dX1_formulaCount_2 (fun H locs hP hD hS => ?_)
  have hP : va_P D vwCl (wM bd cI cZ cJ (nI 0) n kd fi se sd tr on sy lt ru lg rs) H := hP
  have hD : va_D A (wM bd cI cZ cJ (nI 0) n kd fi se sd tr on sy lt ru lg rs) := hD
  refine lv_aload_n hx hb dX1_formulaCount_5 rfl (lv_at hl 0 rfl) ?_
  refine va_get (D := D) (ci := 1) (v := .int (nI n)) (C := RX1) (T := TX1) (N := 13) hx hb hts hin0 hown hK hP 0 rfl rfl 1 (by decide) (hts (.fieldLink RX1 48 "RumourReasonerModel" "formulas" "I") (by decide +kernel)) (fun _ h9 => h9) rfl dX1_formulaCount_6 ?_
  exact kret _ rs _ _ _ _ (rfl) hP hS dX1_formulaCount_9

theorem hin_X1_isSteady : ∀ w ∈ wsX10, w ∈ wsX1_isSteady := by first | exact fun _ h => List.mem_cons_of_mem _ (List.mem_append_right _ h) | exact fun _ h => List.mem_cons_of_mem _ (List.mem_append_left _ (List.mem_append_right _ h)) | exact fun _ h => List.mem_cons_of_mem _ (List.mem_append_left _ (List.mem_append_left _ (List.mem_append_right _ h))) | exact fun _ h => List.mem_cons_of_mem _ (List.mem_append_left _ (List.mem_append_left _ (List.mem_append_left _ (List.mem_append_right _ h)))) | decide +kernel
def rm_X1_isSteady : Room := { frames := 2, cells := 0, slots := 0, locals := 43 }
set_option maxHeartbeats 4000000 in
set_option maxRecDepth 100000 in
theorem c_X1_isSteady (hM : OKM n kd fi se tr sy lt lg ru) (a : Nat) (ha : a < n) : MuI l yX1_isSteady wsX1_isSteady rm_X1_isSteady D vwCl (wM bd cI cZ cJ th n kd fi se sd tr on sy lt ru lg rs) (fun u => wM bd cI cZ cJ (nI 0) n kd fi se sd tr on sy lt ru lg u) (tyC cI cZ cJ) [.ref (bd 0), .int (nI a)] (bI (sd a)) := by
  refine MuI.of (cc := cX1_isSteady) (maxL := 2) (by decide) rfl (Nat.le_of_ble_eq_true rfl) (bI_n _) ?_
  intro A p e s m args below meth c Q ls hx hb hml hown hts hP hK hD kret hl
  have hown : s.vm.findClass RX1 = some m.cls := hown
  have hl : lv_has ls 2 [(0, .ref (bd 0)), (1, .int (nI a))] := hl
  have hS : va_S A s.heap s.heap [] := va_S.rf
  have hin0 : ∀ w ∈ u_ws RX1 TX1 13, w ∈ wsX1_isSteady := hin_X1_isSteady
  have hn41 := hM.1
  refine lv_aload_n hx hb dX1_isSteady_0 rfl (lv_at hl 0 rfl) ?_
  refine lv_aload_n hx hb dX1_isSteady_1 rfl (lv_at hl 0 rfl) ?_
  refine lv_iload_n hx hb dX1_isSteady_2 rfl (lv_at hl 1 rfl) ?_
  refine puI_V (own := RX1) (As := [.int (nI a)]) (rest := [.ref (bd 0)]) (C := RX1) (ci := 1) (q0 := 0) ⟨hx, hb, hml, hown, hts⟩ (c_X1_isFormula l D bd cI cZ cJ th n kd fi se sd tr on sy lt ru lg rs (nI a)) gX1_isSteady_X1_isFormula rfl ⟨rfl, rfl⟩ 1 rfl (by decide +kernel) ⟨Nat.le_of_ble_eq_true rfl, Nat.le_of_ble_eq_true rfl⟩ hP hK rfl rfl rfl hS hl.1 rfl (Nat.le_of_ble_eq_true rfl) dX1_isSteady_3 ⟨Nat.zero_le _, Nat.zero_le _⟩ (fun H locs hk1 hS => ?_)
  replace hP := keptP hP hk1
  refine tc_int (y := bI true) (by rw [isF_t ha hM.1]) ?_
  refine zF_eq (tgt := 13) hx hb dX1_isSteady_6 (by decide) (by decide) ?_
  refine lv_iconst (v := nI 0) hx hb dX1_isSteady_9 (by decide) ?_
  refine lv_goto (tgt := 14) hx hb dX1_isSteady_10 (by decide) ?_
  refine va_put (D := D) (ci := 1) (v := .int (nI 0)) (ty := .int) (C := RX1) (T := TX1) (N := 13) hx hb hts hin0 tyX1 tyX1_ok nmX1 hown hK hP hD hS 0 rfl rfl 0 (by decide) (hts (.fieldLink RX1 45 "RumourReasonerModel" "thrown" "I") (by decide +kernel)) (fun _ h9 => h9) rfl (by decide +kernel) rfl rfl (Nat.le_of_ble_eq_true rfl) dX1_isSteady_14 (fun H locs hP hD hS => ?_)
  have hP : va_P D vwCl (wM bd cI cZ cJ (nI 0) n kd fi se sd tr on sy lt ru lg rs) H := hP
  have hD : va_D A (wM bd cI cZ cJ (nI 0) n kd fi se sd tr on sy lt ru lg rs) := hD
  refine lv_aload_n hx hb dX1_isSteady_17 rfl (lv_at hl 0 rfl) ?_
  refine va_get (D := D) (ci := 1) (v := .int (nI 0)) (C := RX1) (T := TX1) (N := 13) hx hb hts hin0 hown hK hP 0 rfl rfl 0 (by decide) (hts (.fieldLink RX1 45 "RumourReasonerModel" "thrown" "I") (by decide +kernel)) (fun _ h9 => h9) rfl dX1_isSteady_18 ?_
  refine zF_ne (tgt := 37) hx hb dX1_isSteady_21 (by decide) (rfl) ?_
  refine lv_aload_n hx hb dX1_isSteady_24 rfl (lv_at hl 0 rfl) ?_
  refine va_get (D := D) (ci := 1) (v := .ref (bd 4)) (C := RX1) (T := TX1) (N := 13) hx hb hts hin0 hown hK hP 0 rfl rfl 5 (by decide) (hts (.fieldLink RX1 19 "RumourReasonerModel" "areSteady" "[Z") (by decide +kernel)) (fun _ h9 => h9) rfl dX1_isSteady_25 ?_
  refine lv_iload_n hx hb dX1_isSteady_28 rfl (lv_at hl 1 rfl) ?_
  refine ld_nz hx hb hK hP 4 1 rfl rfl (j := a) (by omega) (by decide) dX1_isSteady_29 ?_
  refine lv_if_eq (tgt := 37) hx hb dX1_isSteady_30 (by decide) (fun c_1 => ?_) (fun c_1 => ?_)
  · have e_30 := bI_0 c_1
    refine lv_iconst (v := nI 0) hx hb dX1_isSteady_37 (by decide) ?_
    exact kret _ rs _ _ _ _ (by rw [e_30]; rfl) hP hS dX1_isSteady_38
  · have e_30 := bI_1 c_1
    refine lv_iconst (v := nI 1) hx hb dX1_isSteady_33 (by decide) ?_
    refine lv_goto (tgt := 38) hx hb dX1_isSteady_34 (by decide) ?_
    exact kret _ rs _ _ _ _ (by rw [e_30]; rfl) hP hS dX1_isSteady_38

set_option maxHeartbeats 4000000 in
set_option maxRecDepth 100000 in
theorem d_X1_isSteady (hM : OKM n kd fi se tr sy lt lg ru) (x : Int32) (hx9 : x < 0 ∨ nI n ≤ x) : MuI l yX1_isSteady wsX1_isSteady rm_X1_isSteady D vwCl (wM bd cI cZ cJ th n kd fi se sd tr on sy lt ru lg rs) (fun u => wM bd cI cZ cJ (nI 1) n kd fi se sd tr on sy lt ru lg u) (tyC cI cZ cJ) [.ref (bd 0), .int x] (bI false) := by
  refine MuI.of (cc := cX1_isSteady) (maxL := 2) (by decide) rfl (Nat.le_of_ble_eq_true rfl) (bI_n _) ?_
  intro A p e s m args below meth c Q ls hx hb hml hown hts hP hK hD kret hl
  have hown : s.vm.findClass RX1 = some m.cls := hown
  have hl : lv_has ls 2 [(0, .ref (bd 0)), (1, .int x)] := hl
  have hS : va_S A s.heap s.heap [] := va_S.rf
  have hin0 : ∀ w ∈ u_ws RX1 TX1 13, w ∈ wsX1_isSteady := hin_X1_isSteady
  refine lv_aload_n hx hb dX1_isSteady_0 rfl (lv_at hl 0 rfl) ?_
  refine lv_aload_n hx hb dX1_isSteady_1 rfl (lv_at hl 0 rfl) ?_
  refine lv_iload_n hx hb dX1_isSteady_2 rfl (lv_at hl 1 rfl) ?_
  refine puI_V (own := RX1) (As := [.int x]) (rest := [.ref (bd 0)]) (C := RX1) (ci := 1) (q0 := 0) ⟨hx, hb, hml, hown, hts⟩ (c_X1_isFormula l D bd cI cZ cJ th n kd fi se sd tr on sy lt ru lg rs x) gX1_isSteady_X1_isFormula rfl ⟨rfl, rfl⟩ 1 rfl (by decide +kernel) ⟨Nat.le_of_ble_eq_true rfl, Nat.le_of_ble_eq_true rfl⟩ hP hK rfl rfl rfl hS hl.1 rfl (Nat.le_of_ble_eq_true rfl) dX1_isSteady_3 ⟨Nat.zero_le _, Nat.zero_le _⟩ (fun H locs hk1 hS => ?_)
  replace hP := keptP hP hk1
  refine tc_int (y := bI false) (by rw [isF_f hx9 hM.1]) ?_
  refine zT_eq (tgt := 13) hx hb dX1_isSteady_6 (by decide) (rfl) ?_
  refine lv_iconst (v := nI 1) hx hb dX1_isSteady_13 (by decide) ?_
  refine va_put (D := D) (ci := 1) (v := .int (nI 1)) (ty := .int) (C := RX1) (T := TX1) (N := 13) hx hb hts hin0 tyX1 tyX1_ok nmX1 hown hK hP hD hS 0 rfl rfl 0 (by decide) (hts (.fieldLink RX1 45 "RumourReasonerModel" "thrown" "I") (by decide +kernel)) (fun _ h9 => h9) rfl (by decide +kernel) rfl rfl (Nat.le_of_ble_eq_true rfl) dX1_isSteady_14 (fun H locs hP hD hS => ?_)
  have hP : va_P D vwCl (wM bd cI cZ cJ (nI 1) n kd fi se sd tr on sy lt ru lg rs) H := hP
  have hD : va_D A (wM bd cI cZ cJ (nI 1) n kd fi se sd tr on sy lt ru lg rs) := hD
  refine lv_aload_n hx hb dX1_isSteady_17 rfl (lv_at hl 0 rfl) ?_
  refine va_get (D := D) (ci := 1) (v := .int (nI 1)) (C := RX1) (T := TX1) (N := 13) hx hb hts hin0 hown hK hP 0 rfl rfl 0 (by decide) (hts (.fieldLink RX1 45 "RumourReasonerModel" "thrown" "I") (by decide +kernel)) (fun _ h9 => h9) rfl dX1_isSteady_18 ?_
  refine zT_ne (tgt := 37) hx hb dX1_isSteady_21 (by decide) (by decide) ?_
  refine lv_iconst (v := nI 0) hx hb dX1_isSteady_37 (by decide) ?_
  exact kret _ rs _ _ _ _ (rfl) hP hS dX1_isSteady_38

theorem hin_X1_report : ∀ w ∈ wsX10, w ∈ wsX1_report := by first | exact fun _ h => List.mem_cons_of_mem _ (List.mem_append_right _ h) | exact fun _ h => List.mem_cons_of_mem _ (List.mem_append_left _ (List.mem_append_right _ h)) | exact fun _ h => List.mem_cons_of_mem _ (List.mem_append_left _ (List.mem_append_left _ (List.mem_append_right _ h))) | exact fun _ h => List.mem_cons_of_mem _ (List.mem_append_left _ (List.mem_append_left _ (List.mem_append_left _ (List.mem_append_right _ h)))) | decide +kernel
def rm_X1_report : Room := { frames := 2, cells := 0, slots := 0, locals := 42 }
set_option maxHeartbeats 4000000 in
set_option maxRecDepth 100000 in
theorem c_X1_report (a b v : Nat) (ha : a < 6) (hb6 : b < 6) (hv : v < 4) : MuI l yX1_report wsX1_report rm_X1_report D vwCl (wM bd cI cZ cJ th n kd fi se sd tr on sy lt ru lg rs) (fun u => wM bd cI cZ cJ (nI 0) n kd fi se sd tr on (va_up sy (6 * a + b) v) lt ru lg u) (tyC cI cZ cJ) [.ref (bd 0), .int (nI a), .int (nI b), .int (nI v)] (nI (sy (6 * a + b))) := by
  refine MuI.of (cc := cX1_report) (maxL := 5) (by decide) rfl (Nat.le_of_ble_eq_true rfl) (vp_nar_int _) ?_
  intro A p e s m args below meth c Q ls hx hb hml hown hts hP hK hD kret hl
  have hown : s.vm.findClass RX1 = some m.cls := hown
  have hl : lv_has ls 5 [(0, .ref (bd 0)), (1, .int (nI a)), (2, .int (nI b)), (3, .int (nI v))] := hl
  have hS : va_S A s.heap s.heap [] := va_S.rf
  have hin0 : ∀ w ∈ u_ws RX1 TX1 13, w ∈ wsX1_report := hin_X1_report
  refine lv_aload_n hx hb dX1_report_0 rfl (lv_at hl 0 rfl) ?_
  refine lv_iconst (v := nI 0) hx hb dX1_report_1 (by decide) ?_
  refine va_put (D := D) (ci := 1) (v := .int (nI 0)) (ty := .int) (C := RX1) (T := TX1) (N := 13) hx hb hts hin0 tyX1 tyX1_ok nmX1 hown hK hP hD hS 0 rfl rfl 0 (by decide) (hts (.fieldLink RX1 45 "RumourReasonerModel" "thrown" "I") (by decide +kernel)) (fun _ h9 => h9) rfl (by decide +kernel) rfl rfl (Nat.le_of_ble_eq_true rfl) dX1_report_2 (fun H locs hP hD hS => ?_)
  have hP : va_P D vwCl (wM bd cI cZ cJ (nI 0) n kd fi se sd tr on sy lt ru lg rs) H := hP
  have hD : va_D A (wM bd cI cZ cJ (nI 0) n kd fi se sd tr on sy lt ru lg rs) := hD
  refine lv_iload_n hx hb dX1_report_5 rfl (lv_at hl 1 rfl) ?_
  refine puI_S (own := RX1) (As := [.int (nI a)]) (rest := []) ⟨hx, hb, hml, hown, hts⟩ (c_X1_isSource l D (nI a)) gX1_report_X1_isSource rfl ⟨rfl, rfl⟩ 1 rfl (by decide +kernel) ⟨Nat.le_of_ble_eq_true rfl, Nat.le_of_ble_eq_true rfl⟩ nilP (hK.sub (tys' := []) [] rfl) hS hl.1 rfl (Nat.le_of_ble_eq_true rfl) dX1_report_6 ⟨Nat.zero_le _, Nat.zero_le _⟩ (fun H locs hk1 hS => ?_)
  replace hP := keptP hP hk1
  refine tc_int (y := bI true) (by rw [inB_t (by omega) (by omega) (by decide)]) ?_
  refine zF_eq (tgt := 19) hx hb dX1_report_9 (by decide) (by decide) ?_
  refine lv_iload_n hx hb dX1_report_12 rfl (lv_at hl 2 rfl) ?_
  refine puI_S (own := RX1) (As := [.int (nI b)]) (rest := []) ⟨hx, hb, hml, hown, hts⟩ (c_X1_isAtom l D (nI b)) gX1_report_X1_isAtom rfl ⟨rfl, rfl⟩ 1 rfl (by decide +kernel) ⟨Nat.le_of_ble_eq_true rfl, Nat.le_of_ble_eq_true rfl⟩ nilP (hK.sub (tys' := []) [] rfl) hS hl.1 rfl (Nat.le_of_ble_eq_true rfl) dX1_report_13 ⟨Nat.zero_le _, Nat.zero_le _⟩ (fun H locs hk1 hS => ?_)
  replace hP := keptP hP hk1
  refine tc_int (y := bI true) (by rw [inB_t (by omega) (by omega) (by decide)]) ?_
  refine zT_ne (tgt := 25) hx hb dX1_report_16 (by decide) (by decide) ?_
  refine lv_iload_n hx hb dX1_report_25 rfl (lv_at hl 3 rfl) ?_
  refine lv_iconst (v := nI 0) hx hb dX1_report_26 (by decide) ?_
  refine lv_iconst (v := nI 3) hx hb dX1_report_27 (by decide) ?_
  refine puI_S (own := RX1) (As := [.int (nI v), .int (nI 0), .int (nI 3)]) (rest := []) ⟨hx, hb, hml, hown, hts⟩ (c_X1_isIn l D (nI v) (nI 0) (nI 3)) gX1_report_X1_isIn rfl ⟨rfl, rfl⟩ 3 rfl (by decide +kernel) ⟨Nat.le_of_ble_eq_true rfl, Nat.le_of_ble_eq_true rfl⟩ nilP (hK.sub (tys' := []) [] rfl) hS hl.1 rfl (Nat.le_of_ble_eq_true rfl) dX1_report_28 ⟨Nat.zero_le _, Nat.zero_le _⟩ (fun H locs hk1 hS => ?_)
  replace hP := keptP hP hk1
  refine tc_int (y := bI true) (by rw [inB_t (by omega) (by omega) (by decide)]) ?_
  refine zT_ne (tgt := 40) hx hb dX1_report_31 (by decide) (by decide) ?_
  refine lv_aload_n hx hb dX1_report_40 rfl (lv_at hl 0 rfl) ?_
  refine va_get (D := D) (ci := 1) (v := .ref (bd 7)) (C := RX1) (T := TX1) (N := 13) hx hb hts hin0 hown hK hP 0 rfl rfl 8 (by decide) (hts (.fieldLink RX1 29 "RumourReasonerModel" "says" "[I") (by decide +kernel)) (fun _ h9 => h9) rfl dX1_report_41 ?_
  refine lv_bipush (v := nI 6) hx hb dX1_report_44 (by decide) ?_
  refine lv_iload_n hx hb dX1_report_46 rfl (lv_at hl 1 rfl) ?_
  refine lv_imul hx hb dX1_report_47 ?_
  refine tc_int (y := nI (6 * a)) (pk_mul _ _) ?_
  refine lv_iload_n hx hb dX1_report_48 rfl (lv_at hl 2 rfl) ?_
  refine lv_iadd hx hb dX1_report_49 ?_
  refine tc_int (y := nI ((6 * a) + b)) (nI_add _ _) ?_
  refine ld_ni hx hb hK hP 7 0 rfl rfl (j := ((6 * a) + b)) (by omega) (by decide) dX1_report_50 ?_
  refine lv_istore (lv' := [(4, .int (nI (sy ((6 * a) + b)))), (0, .ref (bd 0)), (1, .int (nI a)), (2, .int (nI b)), (3, .int (nI v))]) hx hb dX1_report_51 hl (by decide) rfl (fun ls hl => ?_)
  refine lv_aload_n hx hb dX1_report_53 rfl (lv_at hl 1 rfl) ?_
  refine va_get (D := D) (ci := 1) (v := .ref (bd 7)) (C := RX1) (T := TX1) (N := 13) hx hb hts hin0 hown hK hP 0 rfl rfl 8 (by decide) (hts (.fieldLink RX1 29 "RumourReasonerModel" "says" "[I") (by decide +kernel)) (fun _ h9 => h9) rfl dX1_report_54 ?_
  refine lv_bipush (v := nI 6) hx hb dX1_report_57 (by decide) ?_
  refine lv_iload_n hx hb dX1_report_59 rfl (lv_at hl 2 rfl) ?_
  refine lv_imul hx hb dX1_report_60 ?_
  refine tc_int (y := nI (6 * a)) (pk_mul _ _) ?_
  refine lv_iload_n hx hb dX1_report_61 rfl (lv_at hl 3 rfl) ?_
  refine lv_iadd hx hb dX1_report_62 ?_
  refine tc_int (y := nI ((6 * a) + b)) (nI_add _ _) ?_
  refine lv_iload_n hx hb dX1_report_63 rfl (lv_at hl 4 rfl) ?_
  refine st_ni hx hb hK hP hD hS 7 0 rfl rfl (j := ((6 * a) + b)) (by omega) (by decide) dX1_report_64 (fun H locs hP hD hS => ?_)
  replace hP : va_P D vwCl (wM bd cI cZ cJ (nI 0) n kd fi se sd tr on (va_up sy ((6 * a) + b) v) lt ru lg rs) H := by rw [upN] at hP; exact hP
  replace hD : va_D A (wM bd cI cZ cJ (nI 0) n kd fi se sd tr on (va_up sy ((6 * a) + b) v) lt ru lg rs) := sameD2 hD rfl
  refine lv_iload hx hb dX1_report_65 (lv_at hl 0 rfl) ?_
  exact kret _ rs _ _ _ _ (rfl) hP hS dX1_report_67

set_option maxHeartbeats 4000000 in
set_option maxRecDepth 100000 in
theorem d_X1_report_1 (y z : Int32) (x : Int32) (hx9 : x < 0 ∨ nI 6 ≤ x) : MuI l yX1_report wsX1_report rm_X1_report D vwCl (wM bd cI cZ cJ th n kd fi se sd tr on sy lt ru lg rs) (fun u => wM bd cI cZ cJ (nI 1) n kd fi se sd tr on sy lt ru lg u) (tyC cI cZ cJ) [.ref (bd 0), .int x, .int y, .int z] (nI 0) := by
  refine MuI.of (cc := cX1_report) (maxL := 5) (by decide) rfl (Nat.le_of_ble_eq_true rfl) (vp_nar_int _) ?_
  intro A p e s m args below meth c Q ls hx hb hml hown hts hP hK hD kret hl
  have hown : s.vm.findClass RX1 = some m.cls := hown
  have hl : lv_has ls 5 [(0, .ref (bd 0)), (1, .int x), (2, .int y), (3, .int z)] := hl
  have hS : va_S A s.heap s.heap [] := va_S.rf
  have hin0 : ∀ w ∈ u_ws RX1 TX1 13, w ∈ wsX1_report := hin_X1_report
  refine lv_aload_n hx hb dX1_report_0 rfl (lv_at hl 0 rfl) ?_
  refine lv_iconst (v := nI 0) hx hb dX1_report_1 (by decide) ?_
  refine va_put (D := D) (ci := 1) (v := .int (nI 0)) (ty := .int) (C := RX1) (T := TX1) (N := 13) hx hb hts hin0 tyX1 tyX1_ok nmX1 hown hK hP hD hS 0 rfl rfl 0 (by decide) (hts (.fieldLink RX1 45 "RumourReasonerModel" "thrown" "I") (by decide +kernel)) (fun _ h9 => h9) rfl (by decide +kernel) rfl rfl (Nat.le_of_ble_eq_true rfl) dX1_report_2 (fun H locs hP hD hS => ?_)
  have hP : va_P D vwCl (wM bd cI cZ cJ (nI 0) n kd fi se sd tr on sy lt ru lg rs) H := hP
  have hD : va_D A (wM bd cI cZ cJ (nI 0) n kd fi se sd tr on sy lt ru lg rs) := hD
  refine lv_iload_n hx hb dX1_report_5 rfl (lv_at hl 1 rfl) ?_
  refine puI_S (own := RX1) (As := [.int x]) (rest := []) ⟨hx, hb, hml, hown, hts⟩ (c_X1_isSource l D x) gX1_report_X1_isSource rfl ⟨rfl, rfl⟩ 1 rfl (by decide +kernel) ⟨Nat.le_of_ble_eq_true rfl, Nat.le_of_ble_eq_true rfl⟩ nilP (hK.sub (tys' := []) [] rfl) hS hl.1 rfl (Nat.le_of_ble_eq_true rfl) dX1_report_6 ⟨Nat.zero_le _, Nat.zero_le _⟩ (fun H locs hk1 hS => ?_)
  replace hP := keptP hP hk1
  refine tc_int (y := bI false) (by rw [inB_bad hx9 (by decide)]) ?_
  refine zT_eq (tgt := 19) hx hb dX1_report_9 (by decide) (rfl) ?_
  refine lv_aload_n hx hb dX1_report_19 rfl (lv_at hl 0 rfl) ?_
  refine lv_iconst (v := nI 1) hx hb dX1_report_20 (by decide) ?_
  refine muI_V (own := RX1) (As := [.int (nI 1)]) (rest := []) (C := RX1) (ci := 1) (q0 := 0) (A1 := A) ⟨hx, hb, hml, hown, hts⟩ (c_X1_no l D bd cI cZ cJ (nI 0) n kd fi se sd tr on sy lt ru lg rs 1) gX1_report_X1_no rfl ⟨rfl, rfl⟩ 1 rfl (by decide +kernel) ⟨Nat.le_of_ble_eq_true rfl, Nat.le_of_ble_eq_true rfl⟩ hP hK hD (fun _ h9 => h9) rfl rfl rfl hS hl.1 rfl (Nat.le_of_ble_eq_true rfl) dX1_report_21 ⟨Nat.zero_le _, Nat.zero_le _⟩ (fun u1 H locs hP hz1 hk1 hS => ?_)
  replace hP : va_P D vwCl (wM bd cI cZ cJ (nI 1) n kd fi se sd tr on sy lt ru lg u1) H := hP
  replace hD : va_D A (wM bd cI cZ cJ (nI 1) n kd fi se sd tr on sy lt ru lg u1) := sameD2 hD rfl
  exact kret _ u1 _ _ _ _ (rfl) hP hS dX1_report_24

set_option maxHeartbeats 4000000 in
set_option maxRecDepth 100000 in
theorem d_X1_report_2 (z : Int32) (a : Nat) (ha : a < 6) (x : Int32) (hx9 : x < 0 ∨ nI 6 ≤ x) : MuI l yX1_report wsX1_report rm_X1_report D vwCl (wM bd cI cZ cJ th n kd fi se sd tr on sy lt ru lg rs) (fun u => wM bd cI cZ cJ (nI 1) n kd fi se sd tr on sy lt ru lg u) (tyC cI cZ cJ) [.ref (bd 0), .int (nI a), .int x, .int z] (nI 0) := by
  refine MuI.of (cc := cX1_report) (maxL := 5) (by decide) rfl (Nat.le_of_ble_eq_true rfl) (vp_nar_int _) ?_
  intro A p e s m args below meth c Q ls hx hb hml hown hts hP hK hD kret hl
  have hown : s.vm.findClass RX1 = some m.cls := hown
  have hl : lv_has ls 5 [(0, .ref (bd 0)), (1, .int (nI a)), (2, .int x), (3, .int z)] := hl
  have hS : va_S A s.heap s.heap [] := va_S.rf
  have hin0 : ∀ w ∈ u_ws RX1 TX1 13, w ∈ wsX1_report := hin_X1_report
  refine lv_aload_n hx hb dX1_report_0 rfl (lv_at hl 0 rfl) ?_
  refine lv_iconst (v := nI 0) hx hb dX1_report_1 (by decide) ?_
  refine va_put (D := D) (ci := 1) (v := .int (nI 0)) (ty := .int) (C := RX1) (T := TX1) (N := 13) hx hb hts hin0 tyX1 tyX1_ok nmX1 hown hK hP hD hS 0 rfl rfl 0 (by decide) (hts (.fieldLink RX1 45 "RumourReasonerModel" "thrown" "I") (by decide +kernel)) (fun _ h9 => h9) rfl (by decide +kernel) rfl rfl (Nat.le_of_ble_eq_true rfl) dX1_report_2 (fun H locs hP hD hS => ?_)
  have hP : va_P D vwCl (wM bd cI cZ cJ (nI 0) n kd fi se sd tr on sy lt ru lg rs) H := hP
  have hD : va_D A (wM bd cI cZ cJ (nI 0) n kd fi se sd tr on sy lt ru lg rs) := hD
  refine lv_iload_n hx hb dX1_report_5 rfl (lv_at hl 1 rfl) ?_
  refine puI_S (own := RX1) (As := [.int (nI a)]) (rest := []) ⟨hx, hb, hml, hown, hts⟩ (c_X1_isSource l D (nI a)) gX1_report_X1_isSource rfl ⟨rfl, rfl⟩ 1 rfl (by decide +kernel) ⟨Nat.le_of_ble_eq_true rfl, Nat.le_of_ble_eq_true rfl⟩ nilP (hK.sub (tys' := []) [] rfl) hS hl.1 rfl (Nat.le_of_ble_eq_true rfl) dX1_report_6 ⟨Nat.zero_le _, Nat.zero_le _⟩ (fun H locs hk1 hS => ?_)
  replace hP := keptP hP hk1
  refine tc_int (y := bI true) (by rw [inB_t (by omega) (by omega) (by decide)]) ?_
  refine zF_eq (tgt := 19) hx hb dX1_report_9 (by decide) (by decide) ?_
  refine lv_iload_n hx hb dX1_report_12 rfl (lv_at hl 2 rfl) ?_
  refine puI_S (own := RX1) (As := [.int x]) (rest := []) ⟨hx, hb, hml, hown, hts⟩ (c_X1_isAtom l D x) gX1_report_X1_isAtom rfl ⟨rfl, rfl⟩ 1 rfl (by decide +kernel) ⟨Nat.le_of_ble_eq_true rfl, Nat.le_of_ble_eq_true rfl⟩ nilP (hK.sub (tys' := []) [] rfl) hS hl.1 rfl (Nat.le_of_ble_eq_true rfl) dX1_report_13 ⟨Nat.zero_le _, Nat.zero_le _⟩ (fun H locs hk1 hS => ?_)
  replace hP := keptP hP hk1
  refine tc_int (y := bI false) (by rw [inB_bad hx9 (by decide)]) ?_
  refine zF_ne (tgt := 25) hx hb dX1_report_16 (by decide) (rfl) ?_
  refine lv_aload_n hx hb dX1_report_19 rfl (lv_at hl 0 rfl) ?_
  refine lv_iconst (v := nI 1) hx hb dX1_report_20 (by decide) ?_
  refine muI_V (own := RX1) (As := [.int (nI 1)]) (rest := []) (C := RX1) (ci := 1) (q0 := 0) (A1 := A) ⟨hx, hb, hml, hown, hts⟩ (c_X1_no l D bd cI cZ cJ (nI 0) n kd fi se sd tr on sy lt ru lg rs 1) gX1_report_X1_no rfl ⟨rfl, rfl⟩ 1 rfl (by decide +kernel) ⟨Nat.le_of_ble_eq_true rfl, Nat.le_of_ble_eq_true rfl⟩ hP hK hD (fun _ h9 => h9) rfl rfl rfl hS hl.1 rfl (Nat.le_of_ble_eq_true rfl) dX1_report_21 ⟨Nat.zero_le _, Nat.zero_le _⟩ (fun u1 H locs hP hz1 hk1 hS => ?_)
  replace hP : va_P D vwCl (wM bd cI cZ cJ (nI 1) n kd fi se sd tr on sy lt ru lg u1) H := hP
  replace hD : va_D A (wM bd cI cZ cJ (nI 1) n kd fi se sd tr on sy lt ru lg u1) := sameD2 hD rfl
  exact kret _ u1 _ _ _ _ (rfl) hP hS dX1_report_24

set_option maxHeartbeats 4000000 in
set_option maxRecDepth 100000 in
theorem d_X1_report_3 (a b : Nat) (ha : a < 6) (hb6 : b < 6) (x : Int32) (hx9 : x < 0 ∨ nI 4 ≤ x) : MuI l yX1_report wsX1_report rm_X1_report D vwCl (wM bd cI cZ cJ th n kd fi se sd tr on sy lt ru lg rs) (fun u => wM bd cI cZ cJ (nI 2) n kd fi se sd tr on sy lt ru lg u) (tyC cI cZ cJ) [.ref (bd 0), .int (nI a), .int (nI b), .int x] (nI 0) := by
  refine MuI.of (cc := cX1_report) (maxL := 5) (by decide) rfl (Nat.le_of_ble_eq_true rfl) (vp_nar_int _) ?_
  intro A p e s m args below meth c Q ls hx hb hml hown hts hP hK hD kret hl
  have hown : s.vm.findClass RX1 = some m.cls := hown
  have hl : lv_has ls 5 [(0, .ref (bd 0)), (1, .int (nI a)), (2, .int (nI b)), (3, .int x)] := hl
  have hS : va_S A s.heap s.heap [] := va_S.rf
  have hin0 : ∀ w ∈ u_ws RX1 TX1 13, w ∈ wsX1_report := hin_X1_report
  refine lv_aload_n hx hb dX1_report_0 rfl (lv_at hl 0 rfl) ?_
  refine lv_iconst (v := nI 0) hx hb dX1_report_1 (by decide) ?_
  refine va_put (D := D) (ci := 1) (v := .int (nI 0)) (ty := .int) (C := RX1) (T := TX1) (N := 13) hx hb hts hin0 tyX1 tyX1_ok nmX1 hown hK hP hD hS 0 rfl rfl 0 (by decide) (hts (.fieldLink RX1 45 "RumourReasonerModel" "thrown" "I") (by decide +kernel)) (fun _ h9 => h9) rfl (by decide +kernel) rfl rfl (Nat.le_of_ble_eq_true rfl) dX1_report_2 (fun H locs hP hD hS => ?_)
  have hP : va_P D vwCl (wM bd cI cZ cJ (nI 0) n kd fi se sd tr on sy lt ru lg rs) H := hP
  have hD : va_D A (wM bd cI cZ cJ (nI 0) n kd fi se sd tr on sy lt ru lg rs) := hD
  refine lv_iload_n hx hb dX1_report_5 rfl (lv_at hl 1 rfl) ?_
  refine puI_S (own := RX1) (As := [.int (nI a)]) (rest := []) ⟨hx, hb, hml, hown, hts⟩ (c_X1_isSource l D (nI a)) gX1_report_X1_isSource rfl ⟨rfl, rfl⟩ 1 rfl (by decide +kernel) ⟨Nat.le_of_ble_eq_true rfl, Nat.le_of_ble_eq_true rfl⟩ nilP (hK.sub (tys' := []) [] rfl) hS hl.1 rfl (Nat.le_of_ble_eq_true rfl) dX1_report_6 ⟨Nat.zero_le _, Nat.zero_le _⟩ (fun H locs hk1 hS => ?_)
  replace hP := keptP hP hk1
  refine tc_int (y := bI true) (by rw [inB_t (by omega) (by omega) (by decide)]) ?_
  refine zF_eq (tgt := 19) hx hb dX1_report_9 (by decide) (by decide) ?_
  refine lv_iload_n hx hb dX1_report_12 rfl (lv_at hl 2 rfl) ?_
  refine puI_S (own := RX1) (As := [.int (nI b)]) (rest := []) ⟨hx, hb, hml, hown, hts⟩ (c_X1_isAtom l D (nI b)) gX1_report_X1_isAtom rfl ⟨rfl, rfl⟩ 1 rfl (by decide +kernel) ⟨Nat.le_of_ble_eq_true rfl, Nat.le_of_ble_eq_true rfl⟩ nilP (hK.sub (tys' := []) [] rfl) hS hl.1 rfl (Nat.le_of_ble_eq_true rfl) dX1_report_13 ⟨Nat.zero_le _, Nat.zero_le _⟩ (fun H locs hk1 hS => ?_)
  replace hP := keptP hP hk1
  refine tc_int (y := bI true) (by rw [inB_t (by omega) (by omega) (by decide)]) ?_
  refine zT_ne (tgt := 25) hx hb dX1_report_16 (by decide) (by decide) ?_
  refine lv_iload_n hx hb dX1_report_25 rfl (lv_at hl 3 rfl) ?_
  refine lv_iconst (v := nI 0) hx hb dX1_report_26 (by decide) ?_
  refine lv_iconst (v := nI 3) hx hb dX1_report_27 (by decide) ?_
  refine puI_S (own := RX1) (As := [.int x, .int (nI 0), .int (nI 3)]) (rest := []) ⟨hx, hb, hml, hown, hts⟩ (c_X1_isIn l D x (nI 0) (nI 3)) gX1_report_X1_isIn rfl ⟨rfl, rfl⟩ 3 rfl (by decide +kernel) ⟨Nat.le_of_ble_eq_true rfl, Nat.le_of_ble_eq_true rfl⟩ nilP (hK.sub (tys' := []) [] rfl) hS hl.1 rfl (Nat.le_of_ble_eq_true rfl) dX1_report_28 ⟨Nat.zero_le _, Nat.zero_le _⟩ (fun H locs hk1 hS => ?_)
  replace hP := keptP hP hk1
  refine tc_int (y := bI false) (by rw [inB_bad hx9 (by decide)]) ?_
  refine zF_ne (tgt := 40) hx hb dX1_report_31 (by decide) (rfl) ?_
  refine lv_aload_n hx hb dX1_report_34 rfl (lv_at hl 0 rfl) ?_
  refine lv_iconst (v := nI 2) hx hb dX1_report_35 (by decide) ?_
  refine muI_V (own := RX1) (As := [.int (nI 2)]) (rest := []) (C := RX1) (ci := 1) (q0 := 0) (A1 := A) ⟨hx, hb, hml, hown, hts⟩ (c_X1_no l D bd cI cZ cJ (nI 0) n kd fi se sd tr on sy lt ru lg rs 2) gX1_report_X1_no rfl ⟨rfl, rfl⟩ 1 rfl (by decide +kernel) ⟨Nat.le_of_ble_eq_true rfl, Nat.le_of_ble_eq_true rfl⟩ hP hK hD (fun _ h9 => h9) rfl rfl rfl hS hl.1 rfl (Nat.le_of_ble_eq_true rfl) dX1_report_36 ⟨Nat.zero_le _, Nat.zero_le _⟩ (fun u1 H locs hP hz1 hk1 hS => ?_)
  replace hP : va_P D vwCl (wM bd cI cZ cJ (nI 2) n kd fi se sd tr on sy lt ru lg u1) H := hP
  replace hD : va_D A (wM bd cI cZ cJ (nI 2) n kd fi se sd tr on sy lt ru lg u1) := sameD2 hD rfl
  exact kret _ u1 _ _ _ _ (rfl) hP hS dX1_report_39

theorem hin_X1_setTrust : ∀ w ∈ wsX10, w ∈ wsX1_setTrust := by first | exact fun _ h => List.mem_cons_of_mem _ (List.mem_append_right _ h) | exact fun _ h => List.mem_cons_of_mem _ (List.mem_append_left _ (List.mem_append_right _ h)) | exact fun _ h => List.mem_cons_of_mem _ (List.mem_append_left _ (List.mem_append_left _ (List.mem_append_right _ h))) | exact fun _ h => List.mem_cons_of_mem _ (List.mem_append_left _ (List.mem_append_left _ (List.mem_append_left _ (List.mem_append_right _ h)))) | decide +kernel
def rm_X1_setTrust : Room := { frames := 2, cells := 0, slots := 0, locals := 42 }
set_option maxHeartbeats 4000000 in
set_option maxRecDepth 100000 in
theorem c_X1_setTrust (a t : Nat) (ha : a < 6) (ht100 : 1 ≤ t ∧ t ≤ 100) : MuI l yX1_setTrust wsX1_setTrust rm_X1_setTrust D vwCl (wM bd cI cZ cJ th n kd fi se sd tr on sy lt ru lg rs) (fun u => wM bd cI cZ cJ (nI 0) n kd fi se sd (va_up tr a t) on sy lt ru lg u) (tyC cI cZ cJ) [.ref (bd 0), .int (nI a), .int (nI t)] (nI (tr a)) := by
  refine MuI.of (cc := cX1_setTrust) (maxL := 4) (by decide) rfl (Nat.le_of_ble_eq_true rfl) (vp_nar_int _) ?_
  intro A p e s m args below meth c Q ls hx hb hml hown hts hP hK hD kret hl
  have hown : s.vm.findClass RX1 = some m.cls := hown
  have hl : lv_has ls 4 [(0, .ref (bd 0)), (1, .int (nI a)), (2, .int (nI t))] := hl
  have hS : va_S A s.heap s.heap [] := va_S.rf
  have hin0 : ∀ w ∈ u_ws RX1 TX1 13, w ∈ wsX1_setTrust := hin_X1_setTrust
  refine lv_aload_n hx hb dX1_setTrust_0 rfl (lv_at hl 0 rfl) ?_
  refine lv_iconst (v := nI 0) hx hb dX1_setTrust_1 (by decide) ?_
  refine va_put (D := D) (ci := 1) (v := .int (nI 0)) (ty := .int) (C := RX1) (T := TX1) (N := 13) hx hb hts hin0 tyX1 tyX1_ok nmX1 hown hK hP hD hS 0 rfl rfl 0 (by decide) (hts (.fieldLink RX1 45 "RumourReasonerModel" "thrown" "I") (by decide +kernel)) (fun _ h9 => h9) rfl (by decide +kernel) rfl rfl (Nat.le_of_ble_eq_true rfl) dX1_setTrust_2 (fun H locs hP hD hS => ?_)
  have hP : va_P D vwCl (wM bd cI cZ cJ (nI 0) n kd fi se sd tr on sy lt ru lg rs) H := hP
  have hD : va_D A (wM bd cI cZ cJ (nI 0) n kd fi se sd tr on sy lt ru lg rs) := hD
  refine lv_iload_n hx hb dX1_setTrust_5 rfl (lv_at hl 1 rfl) ?_
  refine puI_S (own := RX1) (As := [.int (nI a)]) (rest := []) ⟨hx, hb, hml, hown, hts⟩ (c_X1_isSource l D (nI a)) gX1_setTrust_X1_isSource rfl ⟨rfl, rfl⟩ 1 rfl (by decide +kernel) ⟨Nat.le_of_ble_eq_true rfl, Nat.le_of_ble_eq_true rfl⟩ nilP (hK.sub (tys' := []) [] rfl) hS hl.1 rfl (Nat.le_of_ble_eq_true rfl) dX1_setTrust_6 ⟨Nat.zero_le _, Nat.zero_le _⟩ (fun H locs hk1 hS => ?_)
  replace hP := keptP hP hk1
  refine tc_int (y := bI true) (by rw [inB_t (by omega) (by omega) (by decide)]) ?_
  refine zT_ne (tgt := 18) hx hb dX1_setTrust_9 (by decide) (by decide) ?_
  refine lv_iload_n hx hb dX1_setTrust_18 rfl (lv_at hl 2 rfl) ?_
  refine lv_iconst (v := nI 1) hx hb dX1_setTrust_19 (by decide) ?_
  refine lv_bipush (v := nI 100) hx hb dX1_setTrust_20 (by decide) ?_
  refine puI_S (own := RX1) (As := [.int (nI t), .int (nI 1), .int (nI 100)]) (rest := []) ⟨hx, hb, hml, hown, hts⟩ (c_X1_isIn l D (nI t) (nI 1) (nI 100)) gX1_setTrust_X1_isIn rfl ⟨rfl, rfl⟩ 3 rfl (by decide +kernel) ⟨Nat.le_of_ble_eq_true rfl, Nat.le_of_ble_eq_true rfl⟩ nilP (hK.sub (tys' := []) [] rfl) hS hl.1 rfl (Nat.le_of_ble_eq_true rfl) dX1_setTrust_22 ⟨Nat.zero_le _, Nat.zero_le _⟩ (fun H locs hk1 hS => ?_)
  replace hP := keptP hP hk1
  refine tc_int (y := bI true) (by rw [inB_t (by omega) (by omega) (by decide)]) ?_
  refine zT_ne (tgt := 34) hx hb dX1_setTrust_25 (by decide) (by decide) ?_
  refine lv_aload_n hx hb dX1_setTrust_34 rfl (lv_at hl 0 rfl) ?_
  refine va_get (D := D) (ci := 1) (v := .ref (bd 5)) (C := RX1) (T := TX1) (N := 13) hx hb hts hin0 hown hK hP 0 rfl rfl 6 (by decide) (hts (.fieldLink RX1 23 "RumourReasonerModel" "trusts" "[I") (by decide +kernel)) (fun _ h9 => h9) rfl dX1_setTrust_35 ?_
  refine lv_iload_n hx hb dX1_setTrust_38 rfl (lv_at hl 1 rfl) ?_
  refine ld_ni hx hb hK hP 5 0 rfl rfl (j := a) (by omega) (by decide) dX1_setTrust_39 ?_
  refine lv_istore_n (lv' := [(3, .int (nI (tr a))), (0, .ref (bd 0)), (1, .int (nI a)), (2, .int (nI t))]) hx hb dX1_setTrust_40 rfl hl (by decide) rfl (fun ls hl => ?_)
  refine lv_aload_n hx hb dX1_setTrust_41 rfl (lv_at hl 1 rfl) ?_
  refine va_get (D := D) (ci := 1) (v := .ref (bd 5)) (C := RX1) (T := TX1) (N := 13) hx hb hts hin0 hown hK hP 0 rfl rfl 6 (by decide) (hts (.fieldLink RX1 23 "RumourReasonerModel" "trusts" "[I") (by decide +kernel)) (fun _ h9 => h9) rfl dX1_setTrust_42 ?_
  refine lv_iload_n hx hb dX1_setTrust_45 rfl (lv_at hl 2 rfl) ?_
  refine lv_iload_n hx hb dX1_setTrust_46 rfl (lv_at hl 3 rfl) ?_
  refine st_ni hx hb hK hP hD hS 5 0 rfl rfl (j := a) (by omega) (by decide) dX1_setTrust_47 (fun H locs hP hD hS => ?_)
  replace hP : va_P D vwCl (wM bd cI cZ cJ (nI 0) n kd fi se sd (va_up tr a t) on sy lt ru lg rs) H := by rw [upN] at hP; exact hP
  replace hD : va_D A (wM bd cI cZ cJ (nI 0) n kd fi se sd (va_up tr a t) on sy lt ru lg rs) := sameD2 hD rfl
  refine lv_iload_n hx hb dX1_setTrust_48 rfl (lv_at hl 0 rfl) ?_
  exact kret _ rs _ _ _ _ (rfl) hP hS dX1_setTrust_49

set_option maxHeartbeats 4000000 in
set_option maxRecDepth 100000 in
theorem d_X1_setTrust_1 (y : Int32) (x : Int32) (hx9 : x < 0 ∨ nI 6 ≤ x) : MuI l yX1_setTrust wsX1_setTrust rm_X1_setTrust D vwCl (wM bd cI cZ cJ th n kd fi se sd tr on sy lt ru lg rs) (fun u => wM bd cI cZ cJ (nI 1) n kd fi se sd tr on sy lt ru lg u) (tyC cI cZ cJ) [.ref (bd 0), .int x, .int y] (nI 0) := by
  refine MuI.of (cc := cX1_setTrust) (maxL := 4) (by decide) rfl (Nat.le_of_ble_eq_true rfl) (vp_nar_int _) ?_
  intro A p e s m args below meth c Q ls hx hb hml hown hts hP hK hD kret hl
  have hown : s.vm.findClass RX1 = some m.cls := hown
  have hl : lv_has ls 4 [(0, .ref (bd 0)), (1, .int x), (2, .int y)] := hl
  have hS : va_S A s.heap s.heap [] := va_S.rf
  have hin0 : ∀ w ∈ u_ws RX1 TX1 13, w ∈ wsX1_setTrust := hin_X1_setTrust
  refine lv_aload_n hx hb dX1_setTrust_0 rfl (lv_at hl 0 rfl) ?_
  refine lv_iconst (v := nI 0) hx hb dX1_setTrust_1 (by decide) ?_
  refine va_put (D := D) (ci := 1) (v := .int (nI 0)) (ty := .int) (C := RX1) (T := TX1) (N := 13) hx hb hts hin0 tyX1 tyX1_ok nmX1 hown hK hP hD hS 0 rfl rfl 0 (by decide) (hts (.fieldLink RX1 45 "RumourReasonerModel" "thrown" "I") (by decide +kernel)) (fun _ h9 => h9) rfl (by decide +kernel) rfl rfl (Nat.le_of_ble_eq_true rfl) dX1_setTrust_2 (fun H locs hP hD hS => ?_)
  have hP : va_P D vwCl (wM bd cI cZ cJ (nI 0) n kd fi se sd tr on sy lt ru lg rs) H := hP
  have hD : va_D A (wM bd cI cZ cJ (nI 0) n kd fi se sd tr on sy lt ru lg rs) := hD
  refine lv_iload_n hx hb dX1_setTrust_5 rfl (lv_at hl 1 rfl) ?_
  refine puI_S (own := RX1) (As := [.int x]) (rest := []) ⟨hx, hb, hml, hown, hts⟩ (c_X1_isSource l D x) gX1_setTrust_X1_isSource rfl ⟨rfl, rfl⟩ 1 rfl (by decide +kernel) ⟨Nat.le_of_ble_eq_true rfl, Nat.le_of_ble_eq_true rfl⟩ nilP (hK.sub (tys' := []) [] rfl) hS hl.1 rfl (Nat.le_of_ble_eq_true rfl) dX1_setTrust_6 ⟨Nat.zero_le _, Nat.zero_le _⟩ (fun H locs hk1 hS => ?_)
  replace hP := keptP hP hk1
  refine tc_int (y := bI false) (by rw [inB_bad hx9 (by decide)]) ?_
  refine zF_ne (tgt := 18) hx hb dX1_setTrust_9 (by decide) (rfl) ?_
  refine lv_aload_n hx hb dX1_setTrust_12 rfl (lv_at hl 0 rfl) ?_
  refine lv_iconst (v := nI 1) hx hb dX1_setTrust_13 (by decide) ?_
  refine muI_V (own := RX1) (As := [.int (nI 1)]) (rest := []) (C := RX1) (ci := 1) (q0 := 0) (A1 := A) ⟨hx, hb, hml, hown, hts⟩ (c_X1_no l D bd cI cZ cJ (nI 0) n kd fi se sd tr on sy lt ru lg rs 1) gX1_setTrust_X1_no rfl ⟨rfl, rfl⟩ 1 rfl (by decide +kernel) ⟨Nat.le_of_ble_eq_true rfl, Nat.le_of_ble_eq_true rfl⟩ hP hK hD (fun _ h9 => h9) rfl rfl rfl hS hl.1 rfl (Nat.le_of_ble_eq_true rfl) dX1_setTrust_14 ⟨Nat.zero_le _, Nat.zero_le _⟩ (fun u1 H locs hP hz1 hk1 hS => ?_)
  replace hP : va_P D vwCl (wM bd cI cZ cJ (nI 1) n kd fi se sd tr on sy lt ru lg u1) H := hP
  replace hD : va_D A (wM bd cI cZ cJ (nI 1) n kd fi se sd tr on sy lt ru lg u1) := sameD2 hD rfl
  exact kret _ u1 _ _ _ _ (rfl) hP hS dX1_setTrust_17

set_option maxHeartbeats 4000000 in
set_option maxRecDepth 100000 in
theorem d_X1_setTrust_2 (a : Nat) (ha : a < 6) (x : Int32) (hx9 : x < 0 ∨ nI 101 ≤ x ∨ x = nI 0) : MuI l yX1_setTrust wsX1_setTrust rm_X1_setTrust D vwCl (wM bd cI cZ cJ th n kd fi se sd tr on sy lt ru lg rs) (fun u => wM bd cI cZ cJ (nI 2) n kd fi se sd tr on sy lt ru lg u) (tyC cI cZ cJ) [.ref (bd 0), .int (nI a), .int x] (nI 0) := by
  refine MuI.of (cc := cX1_setTrust) (maxL := 4) (by decide) rfl (Nat.le_of_ble_eq_true rfl) (vp_nar_int _) ?_
  intro A p e s m args below meth c Q ls hx hb hml hown hts hP hK hD kret hl
  have hown : s.vm.findClass RX1 = some m.cls := hown
  have hl : lv_has ls 4 [(0, .ref (bd 0)), (1, .int (nI a)), (2, .int x)] := hl
  have hS : va_S A s.heap s.heap [] := va_S.rf
  have hin0 : ∀ w ∈ u_ws RX1 TX1 13, w ∈ wsX1_setTrust := hin_X1_setTrust
  refine lv_aload_n hx hb dX1_setTrust_0 rfl (lv_at hl 0 rfl) ?_
  refine lv_iconst (v := nI 0) hx hb dX1_setTrust_1 (by decide) ?_
  refine va_put (D := D) (ci := 1) (v := .int (nI 0)) (ty := .int) (C := RX1) (T := TX1) (N := 13) hx hb hts hin0 tyX1 tyX1_ok nmX1 hown hK hP hD hS 0 rfl rfl 0 (by decide) (hts (.fieldLink RX1 45 "RumourReasonerModel" "thrown" "I") (by decide +kernel)) (fun _ h9 => h9) rfl (by decide +kernel) rfl rfl (Nat.le_of_ble_eq_true rfl) dX1_setTrust_2 (fun H locs hP hD hS => ?_)
  have hP : va_P D vwCl (wM bd cI cZ cJ (nI 0) n kd fi se sd tr on sy lt ru lg rs) H := hP
  have hD : va_D A (wM bd cI cZ cJ (nI 0) n kd fi se sd tr on sy lt ru lg rs) := hD
  refine lv_iload_n hx hb dX1_setTrust_5 rfl (lv_at hl 1 rfl) ?_
  refine puI_S (own := RX1) (As := [.int (nI a)]) (rest := []) ⟨hx, hb, hml, hown, hts⟩ (c_X1_isSource l D (nI a)) gX1_setTrust_X1_isSource rfl ⟨rfl, rfl⟩ 1 rfl (by decide +kernel) ⟨Nat.le_of_ble_eq_true rfl, Nat.le_of_ble_eq_true rfl⟩ nilP (hK.sub (tys' := []) [] rfl) hS hl.1 rfl (Nat.le_of_ble_eq_true rfl) dX1_setTrust_6 ⟨Nat.zero_le _, Nat.zero_le _⟩ (fun H locs hk1 hS => ?_)
  replace hP := keptP hP hk1
  refine tc_int (y := bI true) (by rw [inB_t (by omega) (by omega) (by decide)]) ?_
  refine zT_ne (tgt := 18) hx hb dX1_setTrust_9 (by decide) (by decide) ?_
  refine lv_iload_n hx hb dX1_setTrust_18 rfl (lv_at hl 2 rfl) ?_
  refine lv_iconst (v := nI 1) hx hb dX1_setTrust_19 (by decide) ?_
  refine lv_bipush (v := nI 100) hx hb dX1_setTrust_20 (by decide) ?_
  refine puI_S (own := RX1) (As := [.int x, .int (nI 1), .int (nI 100)]) (rest := []) ⟨hx, hb, hml, hown, hts⟩ (c_X1_isIn l D x (nI 1) (nI 100)) gX1_setTrust_X1_isIn rfl ⟨rfl, rfl⟩ 3 rfl (by decide +kernel) ⟨Nat.le_of_ble_eq_true rfl, Nat.le_of_ble_eq_true rfl⟩ nilP (hK.sub (tys' := []) [] rfl) hS hl.1 rfl (Nat.le_of_ble_eq_true rfl) dX1_setTrust_22 ⟨Nat.zero_le _, Nat.zero_le _⟩ (fun H locs hk1 hS => ?_)
  replace hP := keptP hP hk1
  refine tc_int (y := bI false) (by rw [inB_bad1 hx9 (by decide)]) ?_
  refine zF_ne (tgt := 34) hx hb dX1_setTrust_25 (by decide) (rfl) ?_
  refine lv_aload_n hx hb dX1_setTrust_28 rfl (lv_at hl 0 rfl) ?_
  refine lv_iconst (v := nI 2) hx hb dX1_setTrust_29 (by decide) ?_
  refine muI_V (own := RX1) (As := [.int (nI 2)]) (rest := []) (C := RX1) (ci := 1) (q0 := 0) (A1 := A) ⟨hx, hb, hml, hown, hts⟩ (c_X1_no l D bd cI cZ cJ (nI 0) n kd fi se sd tr on sy lt ru lg rs 2) gX1_setTrust_X1_no rfl ⟨rfl, rfl⟩ 1 rfl (by decide +kernel) ⟨Nat.le_of_ble_eq_true rfl, Nat.le_of_ble_eq_true rfl⟩ hP hK hD (fun _ h9 => h9) rfl rfl rfl hS hl.1 rfl (Nat.le_of_ble_eq_true rfl) dX1_setTrust_30 ⟨Nat.zero_le _, Nat.zero_le _⟩ (fun u1 H locs hP hz1 hk1 hS => ?_)
  replace hP : va_P D vwCl (wM bd cI cZ cJ (nI 2) n kd fi se sd tr on sy lt ru lg u1) H := hP
  replace hD : va_D A (wM bd cI cZ cJ (nI 2) n kd fi se sd tr on sy lt ru lg u1) := sameD2 hD rfl
  exact kret _ u1 _ _ _ _ (rfl) hP hS dX1_setTrust_33

theorem hin_X1_setLeastTrust : ∀ w ∈ wsX10, w ∈ wsX1_setLeastTrust := by first | exact fun _ h => List.mem_cons_of_mem _ (List.mem_append_right _ h) | exact fun _ h => List.mem_cons_of_mem _ (List.mem_append_left _ (List.mem_append_right _ h)) | exact fun _ h => List.mem_cons_of_mem _ (List.mem_append_left _ (List.mem_append_left _ (List.mem_append_right _ h))) | exact fun _ h => List.mem_cons_of_mem _ (List.mem_append_left _ (List.mem_append_left _ (List.mem_append_left _ (List.mem_append_right _ h)))) | decide +kernel
def rm_X1_setLeastTrust : Room := { frames := 1, cells := 0, slots := 0, locals := 22 }
set_option maxHeartbeats 4000000 in
set_option maxRecDepth 100000 in
theorem c_X1_setLeastTrust (t : Nat) (ht100 : 1 ≤ t ∧ t ≤ 100) : MuI l yX1_setLeastTrust wsX1_setLeastTrust rm_X1_setLeastTrust D vwCl (wM bd cI cZ cJ th n kd fi se sd tr on sy lt ru lg rs) (fun u => wM bd cI cZ cJ (nI 0) n kd fi se sd tr on sy t ru lg u) (tyC cI cZ cJ) [.ref (bd 0), .int (nI t)] (nI lt) := by
  refine MuI.of (cc := cX1_setLeastTrust) (maxL := 3) (by decide) rfl (Nat.le_of_ble_eq_true rfl) (vp_nar_int _) ?_
  intro A p e s m args below meth c Q ls hx hb hml hown hts hP hK hD kret hl
  have hown : s.vm.findClass RX1 = some m.cls := hown
  have hl : lv_has ls 3 [(0, .ref (bd 0)), (1, .int (nI t))] := hl
  have hS : va_S A s.heap s.heap [] := va_S.rf
  have hin0 : ∀ w ∈ u_ws RX1 TX1 13, w ∈ wsX1_setLeastTrust := hin_X1_setLeastTrust
  refine lv_aload_n hx hb dX1_setLeastTrust_0 rfl (lv_at hl 0 rfl) ?_
  refine lv_iconst (v := nI 0) hx hb dX1_setLeastTrust_1 (by decide) ?_
  refine va_put (D := D) (ci := 1) (v := .int (nI 0)) (ty := .int) (C := RX1) (T := TX1) (N := 13) hx hb hts hin0 tyX1 tyX1_ok nmX1 hown hK hP hD hS 0 rfl rfl 0 (by decide) (hts (.fieldLink RX1 45 "RumourReasonerModel" "thrown" "I") (by decide +kernel)) (fun _ h9 => h9) rfl (by decide +kernel) rfl rfl (Nat.le_of_ble_eq_true rfl) dX1_setLeastTrust_2 (fun H locs hP hD hS => ?_)
  have hP : va_P D vwCl (wM bd cI cZ cJ (nI 0) n kd fi se sd tr on sy lt ru lg rs) H := hP
  have hD : va_D A (wM bd cI cZ cJ (nI 0) n kd fi se sd tr on sy lt ru lg rs) := hD
  refine lv_iload_n hx hb dX1_setLeastTrust_5 rfl (lv_at hl 1 rfl) ?_
  refine lv_iconst (v := nI 1) hx hb dX1_setLeastTrust_6 (by decide) ?_
  refine lv_bipush (v := nI 100) hx hb dX1_setLeastTrust_7 (by decide) ?_
  refine puI_S (own := RX1) (As := [.int (nI t), .int (nI 1), .int (nI 100)]) (rest := []) ⟨hx, hb, hml, hown, hts⟩ (c_X1_isIn l D (nI t) (nI 1) (nI 100)) gX1_setLeastTrust_X1_isIn rfl ⟨rfl, rfl⟩ 3 rfl (by decide +kernel) ⟨Nat.le_of_ble_eq_true rfl, Nat.le_of_ble_eq_true rfl⟩ nilP (hK.sub (tys' := []) [] rfl) hS hl.1 rfl (Nat.le_of_ble_eq_true rfl) dX1_setLeastTrust_9 ⟨Nat.zero_le _, Nat.zero_le _⟩ (fun H locs hk1 hS => ?_)
  replace hP := keptP hP hk1
  refine tc_int (y := bI true) (by rw [inB_t (by omega) (by omega) (by decide)]) ?_
  refine zT_ne (tgt := 21) hx hb dX1_setLeastTrust_12 (by decide) (by decide) ?_
  refine lv_aload_n hx hb dX1_setLeastTrust_21 rfl (lv_at hl 0 rfl) ?_
  refine va_get (D := D) (ci := 1) (v := .int (nI lt)) (C := RX1) (T := TX1) (N := 13) hx hb hts hin0 hown hK hP 0 rfl rfl 9 (by decide) (hts (.fieldLink RX1 32 "RumourReasonerModel" "leastTrust" "I") (by decide +kernel)) (fun _ h9 => h9) rfl dX1_setLeastTrust_22 ?_
  refine lv_istore_n (lv' := [(2, .int (nI lt)), (0, .ref (bd 0)), (1, .int (nI t))]) hx hb dX1_setLeastTrust_25 rfl hl (by decide) rfl (fun ls hl => ?_)
  refine lv_aload_n hx hb dX1_setLeastTrust_26 rfl (lv_at hl 1 rfl) ?_
  refine lv_iload_n hx hb dX1_setLeastTrust_27 rfl (lv_at hl 2 rfl) ?_
  refine va_put (D := D) (ci := 1) (v := .int (nI t)) (ty := .int) (C := RX1) (T := TX1) (N := 13) hx hb hts hin0 tyX1 tyX1_ok nmX1 hown hK hP hD hS 0 rfl rfl 9 (by decide) (hts (.fieldLink RX1 32 "RumourReasonerModel" "leastTrust" "I") (by decide +kernel)) (fun _ h9 => h9) rfl (by decide +kernel) rfl rfl (Nat.le_of_ble_eq_true rfl) dX1_setLeastTrust_28 (fun H locs hP hD hS => ?_)
  have hP : va_P D vwCl (wM bd cI cZ cJ (nI 0) n kd fi se sd tr on sy t ru lg rs) H := hP
  have hD : va_D A (wM bd cI cZ cJ (nI 0) n kd fi se sd tr on sy t ru lg rs) := hD
  refine lv_iload_n hx hb dX1_setLeastTrust_31 rfl (lv_at hl 0 rfl) ?_
  exact kret _ rs _ _ _ _ (rfl) hP hS dX1_setLeastTrust_32

set_option maxHeartbeats 4000000 in
set_option maxRecDepth 100000 in
theorem d_X1_setLeastTrust (x : Int32) (hx9 : x < 0 ∨ nI 101 ≤ x ∨ x = nI 0) : MuI l yX1_setLeastTrust wsX1_setLeastTrust rm_X1_setLeastTrust D vwCl (wM bd cI cZ cJ th n kd fi se sd tr on sy lt ru lg rs) (fun u => wM bd cI cZ cJ (nI 1) n kd fi se sd tr on sy lt ru lg u) (tyC cI cZ cJ) [.ref (bd 0), .int x] (nI 0) := by
  refine MuI.of (cc := cX1_setLeastTrust) (maxL := 3) (by decide) rfl (Nat.le_of_ble_eq_true rfl) (vp_nar_int _) ?_
  intro A p e s m args below meth c Q ls hx hb hml hown hts hP hK hD kret hl
  have hown : s.vm.findClass RX1 = some m.cls := hown
  have hl : lv_has ls 3 [(0, .ref (bd 0)), (1, .int x)] := hl
  have hS : va_S A s.heap s.heap [] := va_S.rf
  have hin0 : ∀ w ∈ u_ws RX1 TX1 13, w ∈ wsX1_setLeastTrust := hin_X1_setLeastTrust
  refine lv_aload_n hx hb dX1_setLeastTrust_0 rfl (lv_at hl 0 rfl) ?_
  refine lv_iconst (v := nI 0) hx hb dX1_setLeastTrust_1 (by decide) ?_
  refine va_put (D := D) (ci := 1) (v := .int (nI 0)) (ty := .int) (C := RX1) (T := TX1) (N := 13) hx hb hts hin0 tyX1 tyX1_ok nmX1 hown hK hP hD hS 0 rfl rfl 0 (by decide) (hts (.fieldLink RX1 45 "RumourReasonerModel" "thrown" "I") (by decide +kernel)) (fun _ h9 => h9) rfl (by decide +kernel) rfl rfl (Nat.le_of_ble_eq_true rfl) dX1_setLeastTrust_2 (fun H locs hP hD hS => ?_)
  have hP : va_P D vwCl (wM bd cI cZ cJ (nI 0) n kd fi se sd tr on sy lt ru lg rs) H := hP
  have hD : va_D A (wM bd cI cZ cJ (nI 0) n kd fi se sd tr on sy lt ru lg rs) := hD
  refine lv_iload_n hx hb dX1_setLeastTrust_5 rfl (lv_at hl 1 rfl) ?_
  refine lv_iconst (v := nI 1) hx hb dX1_setLeastTrust_6 (by decide) ?_
  refine lv_bipush (v := nI 100) hx hb dX1_setLeastTrust_7 (by decide) ?_
  refine puI_S (own := RX1) (As := [.int x, .int (nI 1), .int (nI 100)]) (rest := []) ⟨hx, hb, hml, hown, hts⟩ (c_X1_isIn l D x (nI 1) (nI 100)) gX1_setLeastTrust_X1_isIn rfl ⟨rfl, rfl⟩ 3 rfl (by decide +kernel) ⟨Nat.le_of_ble_eq_true rfl, Nat.le_of_ble_eq_true rfl⟩ nilP (hK.sub (tys' := []) [] rfl) hS hl.1 rfl (Nat.le_of_ble_eq_true rfl) dX1_setLeastTrust_9 ⟨Nat.zero_le _, Nat.zero_le _⟩ (fun H locs hk1 hS => ?_)
  replace hP := keptP hP hk1
  refine tc_int (y := bI false) (by rw [inB_bad1 hx9 (by decide)]) ?_
  refine zF_ne (tgt := 21) hx hb dX1_setLeastTrust_12 (by decide) (rfl) ?_
  refine lv_aload_n hx hb dX1_setLeastTrust_15 rfl (lv_at hl 0 rfl) ?_
  refine lv_iconst (v := nI 1) hx hb dX1_setLeastTrust_16 (by decide) ?_
  refine muI_V (own := RX1) (As := [.int (nI 1)]) (rest := []) (C := RX1) (ci := 1) (q0 := 0) (A1 := A) ⟨hx, hb, hml, hown, hts⟩ (c_X1_no l D bd cI cZ cJ (nI 0) n kd fi se sd tr on sy lt ru lg rs 1) gX1_setLeastTrust_X1_no rfl ⟨rfl, rfl⟩ 1 rfl (by decide +kernel) ⟨Nat.le_of_ble_eq_true rfl, Nat.le_of_ble_eq_true rfl⟩ hP hK hD (fun _ h9 => h9) rfl rfl rfl hS hl.1 rfl (Nat.le_of_ble_eq_true rfl) dX1_setLeastTrust_17 ⟨Nat.zero_le _, Nat.zero_le _⟩ (fun u1 H locs hP hz1 hk1 hS => ?_)
  replace hP : va_P D vwCl (wM bd cI cZ cJ (nI 1) n kd fi se sd tr on sy lt ru lg u1) H := hP
  replace hD : va_D A (wM bd cI cZ cJ (nI 1) n kd fi se sd tr on sy lt ru lg u1) := sameD2 hD rfl
  exact kret _ u1 _ _ _ _ (rfl) hP hS dX1_setLeastTrust_20

theorem hin_X1_setLogic : ∀ w ∈ wsX10, w ∈ wsX1_setLogic := by first | exact fun _ h => List.mem_cons_of_mem _ (List.mem_append_right _ h) | exact fun _ h => List.mem_cons_of_mem _ (List.mem_append_left _ (List.mem_append_right _ h)) | exact fun _ h => List.mem_cons_of_mem _ (List.mem_append_left _ (List.mem_append_left _ (List.mem_append_right _ h))) | exact fun _ h => List.mem_cons_of_mem _ (List.mem_append_left _ (List.mem_append_left _ (List.mem_append_left _ (List.mem_append_right _ h)))) | decide +kernel
def rm_X1_setLogic : Room := { frames := 1, cells := 0, slots := 0, locals := 22 }
set_option maxHeartbeats 4000000 in
set_option maxRecDepth 100000 in
theorem c_X1_setLogic (g : Nat) (hg : 1 ≤ g ∧ g ≤ 15) : MuI l yX1_setLogic wsX1_setLogic rm_X1_setLogic D vwCl (wM bd cI cZ cJ th n kd fi se sd tr on sy lt ru lg rs) (fun u => wM bd cI cZ cJ (nI 0) n kd fi se sd tr on sy lt ru g u) (tyC cI cZ cJ) [.ref (bd 0), .int (nI g)] (nI lg) := by
  refine MuI.of (cc := cX1_setLogic) (maxL := 3) (by decide) rfl (Nat.le_of_ble_eq_true rfl) (vp_nar_int _) ?_
  intro A p e s m args below meth c Q ls hx hb hml hown hts hP hK hD kret hl
  have hown : s.vm.findClass RX1 = some m.cls := hown
  have hl : lv_has ls 3 [(0, .ref (bd 0)), (1, .int (nI g))] := hl
  have hS : va_S A s.heap s.heap [] := va_S.rf
  have hin0 : ∀ w ∈ u_ws RX1 TX1 13, w ∈ wsX1_setLogic := hin_X1_setLogic
  refine lv_aload_n hx hb dX1_setLogic_0 rfl (lv_at hl 0 rfl) ?_
  refine lv_iconst (v := nI 0) hx hb dX1_setLogic_1 (by decide) ?_
  refine va_put (D := D) (ci := 1) (v := .int (nI 0)) (ty := .int) (C := RX1) (T := TX1) (N := 13) hx hb hts hin0 tyX1 tyX1_ok nmX1 hown hK hP hD hS 0 rfl rfl 0 (by decide) (hts (.fieldLink RX1 45 "RumourReasonerModel" "thrown" "I") (by decide +kernel)) (fun _ h9 => h9) rfl (by decide +kernel) rfl rfl (Nat.le_of_ble_eq_true rfl) dX1_setLogic_2 (fun H locs hP hD hS => ?_)
  have hP : va_P D vwCl (wM bd cI cZ cJ (nI 0) n kd fi se sd tr on sy lt ru lg rs) H := hP
  have hD : va_D A (wM bd cI cZ cJ (nI 0) n kd fi se sd tr on sy lt ru lg rs) := hD
  refine lv_iload_n hx hb dX1_setLogic_5 rfl (lv_at hl 1 rfl) ?_
  refine lv_iconst (v := nI 1) hx hb dX1_setLogic_6 (by decide) ?_
  refine lv_bipush (v := nI 15) hx hb dX1_setLogic_7 (by decide) ?_
  refine puI_S (own := RX1) (As := [.int (nI g), .int (nI 1), .int (nI 15)]) (rest := []) ⟨hx, hb, hml, hown, hts⟩ (c_X1_isIn l D (nI g) (nI 1) (nI 15)) gX1_setLogic_X1_isIn rfl ⟨rfl, rfl⟩ 3 rfl (by decide +kernel) ⟨Nat.le_of_ble_eq_true rfl, Nat.le_of_ble_eq_true rfl⟩ nilP (hK.sub (tys' := []) [] rfl) hS hl.1 rfl (Nat.le_of_ble_eq_true rfl) dX1_setLogic_9 ⟨Nat.zero_le _, Nat.zero_le _⟩ (fun H locs hk1 hS => ?_)
  replace hP := keptP hP hk1
  refine tc_int (y := bI true) (by rw [inB_t (by omega) (by omega) (by decide)]) ?_
  refine zT_ne (tgt := 21) hx hb dX1_setLogic_12 (by decide) (by decide) ?_
  refine lv_aload_n hx hb dX1_setLogic_21 rfl (lv_at hl 0 rfl) ?_
  refine va_get (D := D) (ci := 1) (v := .int (nI lg)) (C := RX1) (T := TX1) (N := 13) hx hb hts hin0 hown hK hP 0 rfl rfl 11 (by decide) (hts (.fieldLink RX1 39 "RumourReasonerModel" "logic" "I") (by decide +kernel)) (fun _ h9 => h9) rfl dX1_setLogic_22 ?_
  refine lv_istore_n (lv' := [(2, .int (nI lg)), (0, .ref (bd 0)), (1, .int (nI g))]) hx hb dX1_setLogic_25 rfl hl (by decide) rfl (fun ls hl => ?_)
  refine lv_aload_n hx hb dX1_setLogic_26 rfl (lv_at hl 1 rfl) ?_
  refine lv_iload_n hx hb dX1_setLogic_27 rfl (lv_at hl 2 rfl) ?_
  refine va_put (D := D) (ci := 1) (v := .int (nI g)) (ty := .int) (C := RX1) (T := TX1) (N := 13) hx hb hts hin0 tyX1 tyX1_ok nmX1 hown hK hP hD hS 0 rfl rfl 11 (by decide) (hts (.fieldLink RX1 39 "RumourReasonerModel" "logic" "I") (by decide +kernel)) (fun _ h9 => h9) rfl (by decide +kernel) rfl rfl (Nat.le_of_ble_eq_true rfl) dX1_setLogic_28 (fun H locs hP hD hS => ?_)
  have hP : va_P D vwCl (wM bd cI cZ cJ (nI 0) n kd fi se sd tr on sy lt ru g rs) H := hP
  have hD : va_D A (wM bd cI cZ cJ (nI 0) n kd fi se sd tr on sy lt ru g rs) := hD
  refine lv_iload_n hx hb dX1_setLogic_31 rfl (lv_at hl 0 rfl) ?_
  exact kret _ rs _ _ _ _ (rfl) hP hS dX1_setLogic_32

set_option maxHeartbeats 4000000 in
set_option maxRecDepth 100000 in
theorem d_X1_setLogic (x : Int32) (hx9 : x < 0 ∨ nI 16 ≤ x ∨ x = nI 0) : MuI l yX1_setLogic wsX1_setLogic rm_X1_setLogic D vwCl (wM bd cI cZ cJ th n kd fi se sd tr on sy lt ru lg rs) (fun u => wM bd cI cZ cJ (nI 1) n kd fi se sd tr on sy lt ru lg u) (tyC cI cZ cJ) [.ref (bd 0), .int x] (nI 0) := by
  refine MuI.of (cc := cX1_setLogic) (maxL := 3) (by decide) rfl (Nat.le_of_ble_eq_true rfl) (vp_nar_int _) ?_
  intro A p e s m args below meth c Q ls hx hb hml hown hts hP hK hD kret hl
  have hown : s.vm.findClass RX1 = some m.cls := hown
  have hl : lv_has ls 3 [(0, .ref (bd 0)), (1, .int x)] := hl
  have hS : va_S A s.heap s.heap [] := va_S.rf
  have hin0 : ∀ w ∈ u_ws RX1 TX1 13, w ∈ wsX1_setLogic := hin_X1_setLogic
  refine lv_aload_n hx hb dX1_setLogic_0 rfl (lv_at hl 0 rfl) ?_
  refine lv_iconst (v := nI 0) hx hb dX1_setLogic_1 (by decide) ?_
  refine va_put (D := D) (ci := 1) (v := .int (nI 0)) (ty := .int) (C := RX1) (T := TX1) (N := 13) hx hb hts hin0 tyX1 tyX1_ok nmX1 hown hK hP hD hS 0 rfl rfl 0 (by decide) (hts (.fieldLink RX1 45 "RumourReasonerModel" "thrown" "I") (by decide +kernel)) (fun _ h9 => h9) rfl (by decide +kernel) rfl rfl (Nat.le_of_ble_eq_true rfl) dX1_setLogic_2 (fun H locs hP hD hS => ?_)
  have hP : va_P D vwCl (wM bd cI cZ cJ (nI 0) n kd fi se sd tr on sy lt ru lg rs) H := hP
  have hD : va_D A (wM bd cI cZ cJ (nI 0) n kd fi se sd tr on sy lt ru lg rs) := hD
  refine lv_iload_n hx hb dX1_setLogic_5 rfl (lv_at hl 1 rfl) ?_
  refine lv_iconst (v := nI 1) hx hb dX1_setLogic_6 (by decide) ?_
  refine lv_bipush (v := nI 15) hx hb dX1_setLogic_7 (by decide) ?_
  refine puI_S (own := RX1) (As := [.int x, .int (nI 1), .int (nI 15)]) (rest := []) ⟨hx, hb, hml, hown, hts⟩ (c_X1_isIn l D x (nI 1) (nI 15)) gX1_setLogic_X1_isIn rfl ⟨rfl, rfl⟩ 3 rfl (by decide +kernel) ⟨Nat.le_of_ble_eq_true rfl, Nat.le_of_ble_eq_true rfl⟩ nilP (hK.sub (tys' := []) [] rfl) hS hl.1 rfl (Nat.le_of_ble_eq_true rfl) dX1_setLogic_9 ⟨Nat.zero_le _, Nat.zero_le _⟩ (fun H locs hk1 hS => ?_)
  replace hP := keptP hP hk1
  refine tc_int (y := bI false) (by rw [inB_bad1 hx9 (by decide)]) ?_
  refine zF_ne (tgt := 21) hx hb dX1_setLogic_12 (by decide) (rfl) ?_
  refine lv_aload_n hx hb dX1_setLogic_15 rfl (lv_at hl 0 rfl) ?_
  refine lv_iconst (v := nI 1) hx hb dX1_setLogic_16 (by decide) ?_
  refine muI_V (own := RX1) (As := [.int (nI 1)]) (rest := []) (C := RX1) (ci := 1) (q0 := 0) (A1 := A) ⟨hx, hb, hml, hown, hts⟩ (c_X1_no l D bd cI cZ cJ (nI 0) n kd fi se sd tr on sy lt ru lg rs 1) gX1_setLogic_X1_no rfl ⟨rfl, rfl⟩ 1 rfl (by decide +kernel) ⟨Nat.le_of_ble_eq_true rfl, Nat.le_of_ble_eq_true rfl⟩ hP hK hD (fun _ h9 => h9) rfl rfl rfl hS hl.1 rfl (Nat.le_of_ble_eq_true rfl) dX1_setLogic_17 ⟨Nat.zero_le _, Nat.zero_le _⟩ (fun u1 H locs hP hz1 hk1 hS => ?_)
  replace hP : va_P D vwCl (wM bd cI cZ cJ (nI 1) n kd fi se sd tr on sy lt ru lg u1) H := hP
  replace hD : va_D A (wM bd cI cZ cJ (nI 1) n kd fi se sd tr on sy lt ru lg u1) := sameD2 hD rfl
  exact kret _ u1 _ _ _ _ (rfl) hP hS dX1_setLogic_20

theorem hin_X1_let : ∀ w ∈ wsX10, w ∈ wsX1_let := by first | exact fun _ h => List.mem_cons_of_mem _ (List.mem_append_right _ h) | exact fun _ h => List.mem_cons_of_mem _ (List.mem_append_left _ (List.mem_append_right _ h)) | exact fun _ h => List.mem_cons_of_mem _ (List.mem_append_left _ (List.mem_append_left _ (List.mem_append_right _ h))) | exact fun _ h => List.mem_cons_of_mem _ (List.mem_append_left _ (List.mem_append_left _ (List.mem_append_left _ (List.mem_append_right _ h)))) | decide +kernel
def rm_X1_let : Room := { frames := 2, cells := 0, slots := 0, locals := 42 }
set_option maxHeartbeats 4000000 in
set_option maxRecDepth 100000 in
theorem c_X1_let (hM : OKM n kd fi se tr sy lt lg ru) (a : Nat) (b : Bool) (ha : a < 6) : MuI l yX1_let wsX1_let rm_X1_let D vwCl (wM bd cI cZ cJ th n kd fi se sd tr on sy lt ru lg rs) (fun u => wM bd cI cZ cJ (nI 0) n kd fi se sd tr (va_up on a b) sy lt ru lg u) (tyC cI cZ cJ) [.ref (bd 0), .int (nI a), .int (bI b)] (bI (hdB tr (va_up on a b) lt a)) := by
  refine MuI.of (cc := cX1_let) (maxL := 3) (by decide) rfl (Nat.le_of_ble_eq_true rfl) (bI_n _) ?_
  intro A p e s m args below meth c Q ls hx hb hml hown hts hP hK hD kret hl
  have hown : s.vm.findClass RX1 = some m.cls := hown
  have hl : lv_has ls 3 [(0, .ref (bd 0)), (1, .int (nI a)), (2, .int (bI b))] := hl
  have hS : va_S A s.heap s.heap [] := va_S.rf
  have hin0 : ∀ w ∈ u_ws RX1 TX1 13, w ∈ wsX1_let := hin_X1_let
  refine lv_aload_n hx hb dX1_let_0 rfl (lv_at hl 0 rfl) ?_
  refine lv_iload_n hx hb dX1_let_1 rfl (lv_at hl 1 rfl) ?_
  refine puI_S (own := RX1) (As := [.int (nI a)]) (rest := [.ref (bd 0)]) ⟨hx, hb, hml, hown, hts⟩ (c_X1_isSource l D (nI a)) gX1_let_X1_isSource rfl ⟨rfl, rfl⟩ 1 rfl (by decide +kernel) ⟨Nat.le_of_ble_eq_true rfl, Nat.le_of_ble_eq_true rfl⟩ nilP (hK.sub (tys' := []) [] rfl) hS hl.1 rfl (Nat.le_of_ble_eq_true rfl) dX1_let_2 ⟨Nat.zero_le _, Nat.zero_le _⟩ (fun H locs hk1 hS => ?_)
  replace hP := keptP hP hk1
  refine tc_int (y := bI true) (by rw [inB_t (by omega) (by omega) (by decide)]) ?_
  refine zF_eq (tgt := 12) hx hb dX1_let_5 (by decide) (by decide) ?_
  refine lv_iconst (v := nI 0) hx hb dX1_let_8 (by decide) ?_
  refine lv_goto (tgt := 13) hx hb dX1_let_9 (by decide) ?_
  refine va_put (D := D) (ci := 1) (v := .int (nI 0)) (ty := .int) (C := RX1) (T := TX1) (N := 13) hx hb hts hin0 tyX1 tyX1_ok nmX1 hown hK hP hD hS 0 rfl rfl 0 (by decide) (hts (.fieldLink RX1 45 "RumourReasonerModel" "thrown" "I") (by decide +kernel)) (fun _ h9 => h9) rfl (by decide +kernel) rfl rfl (Nat.le_of_ble_eq_true rfl) dX1_let_13 (fun H locs hP hD hS => ?_)
  have hP : va_P D vwCl (wM bd cI cZ cJ (nI 0) n kd fi se sd tr on sy lt ru lg rs) H := hP
  have hD : va_D A (wM bd cI cZ cJ (nI 0) n kd fi se sd tr on sy lt ru lg rs) := hD
  refine lv_aload_n hx hb dX1_let_16 rfl (lv_at hl 0 rfl) ?_
  refine va_get (D := D) (ci := 1) (v := .int (nI 0)) (C := RX1) (T := TX1) (N := 13) hx hb hts hin0 hown hK hP 0 rfl rfl 0 (by decide) (hts (.fieldLink RX1 45 "RumourReasonerModel" "thrown" "I") (by decide +kernel)) (fun _ h9 => h9) rfl dX1_let_17 ?_
  refine zT_eq (tgt := 25) hx hb dX1_let_20 (by decide) (rfl) ?_
  refine lv_aload_n hx hb dX1_let_25 rfl (lv_at hl 0 rfl) ?_
  refine va_get (D := D) (ci := 1) (v := .ref (bd 6)) (C := RX1) (T := TX1) (N := 13) hx hb hts hin0 hown hK hP 0 rfl rfl 7 (by decide) (hts (.fieldLink RX1 26 "RumourReasonerModel" "areOn" "[Z") (by decide +kernel)) (fun _ h9 => h9) rfl dX1_let_26 ?_
  refine lv_iload_n hx hb dX1_let_29 rfl (lv_at hl 1 rfl) ?_
  refine lv_iload_n hx hb dX1_let_30 rfl (lv_at hl 2 rfl) ?_
  refine st_nz hx hb hK hP hD hS 6 1 rfl rfl (j := a) (by omega) (by decide) dX1_let_31 (fun H locs hP hD hS => ?_)
  replace hP : va_P D vwCl (wM bd cI cZ cJ (nI 0) n kd fi se sd tr (va_up on a b) sy lt ru lg rs) H := by rw [bI_nar, upB] at hP; exact hP
  replace hD : va_D A (wM bd cI cZ cJ (nI 0) n kd fi se sd tr (va_up on a b) sy lt ru lg rs) := sameD2 hD rfl
  refine lv_aload_n hx hb dX1_let_32 rfl (lv_at hl 0 rfl) ?_
  refine lv_iload_n hx hb dX1_let_33 rfl (lv_at hl 1 rfl) ?_
  refine puI_V (own := RX1) (As := [.int (nI a)]) (rest := []) (C := RX1) (ci := 1) (q0 := 0) ⟨hx, hb, hml, hown, hts⟩ (c_X1_isHeard l D bd cI cZ cJ (nI 0) n kd fi se sd tr (va_up on a b) sy lt ru lg rs hM a (by omega)) gX1_let_X1_isHeard rfl ⟨rfl, rfl⟩ 1 rfl (by decide +kernel) ⟨Nat.le_of_ble_eq_true rfl, Nat.le_of_ble_eq_true rfl⟩ hP hK rfl rfl rfl hS hl.1 rfl (Nat.le_of_ble_eq_true rfl) dX1_let_34 ⟨Nat.zero_le _, Nat.zero_le _⟩ (fun H locs hk1 hS => ?_)
  replace hP := keptP hP hk1
  exact kret _ rs _ _ _ _ (rfl) hP hS dX1_let_37

set_option maxHeartbeats 4000000 in
set_option maxRecDepth 100000 in
theorem d_X1_let (y : Int32) (x : Int32) (hx9 : x < 0 ∨ nI 6 ≤ x) : MuI l yX1_let wsX1_let rm_X1_let D vwCl (wM bd cI cZ cJ th n kd fi se sd tr on sy lt ru lg rs) (fun u => wM bd cI cZ cJ (nI 1) n kd fi se sd tr on sy lt ru lg u) (tyC cI cZ cJ) [.ref (bd 0), .int x, .int y] (bI false) := by
  refine MuI.of (cc := cX1_let) (maxL := 3) (by decide) rfl (Nat.le_of_ble_eq_true rfl) (bI_n _) ?_
  intro A p e s m args below meth c Q ls hx hb hml hown hts hP hK hD kret hl
  have hown : s.vm.findClass RX1 = some m.cls := hown
  have hl : lv_has ls 3 [(0, .ref (bd 0)), (1, .int x), (2, .int y)] := hl
  have hS : va_S A s.heap s.heap [] := va_S.rf
  have hin0 : ∀ w ∈ u_ws RX1 TX1 13, w ∈ wsX1_let := hin_X1_let
  refine lv_aload_n hx hb dX1_let_0 rfl (lv_at hl 0 rfl) ?_
  refine lv_iload_n hx hb dX1_let_1 rfl (lv_at hl 1 rfl) ?_
  refine puI_S (own := RX1) (As := [.int x]) (rest := [.ref (bd 0)]) ⟨hx, hb, hml, hown, hts⟩ (c_X1_isSource l D x) gX1_let_X1_isSource rfl ⟨rfl, rfl⟩ 1 rfl (by decide +kernel) ⟨Nat.le_of_ble_eq_true rfl, Nat.le_of_ble_eq_true rfl⟩ nilP (hK.sub (tys' := []) [] rfl) hS hl.1 rfl (Nat.le_of_ble_eq_true rfl) dX1_let_2 ⟨Nat.zero_le _, Nat.zero_le _⟩ (fun H locs hk1 hS => ?_)
  replace hP := keptP hP hk1
  refine tc_int (y := bI false) (by rw [inB_bad hx9 (by decide)]) ?_
  refine zT_eq (tgt := 12) hx hb dX1_let_5 (by decide) (rfl) ?_
  refine lv_iconst (v := nI 1) hx hb dX1_let_12 (by decide) ?_
  refine va_put (D := D) (ci := 1) (v := .int (nI 1)) (ty := .int) (C := RX1) (T := TX1) (N := 13) hx hb hts hin0 tyX1 tyX1_ok nmX1 hown hK hP hD hS 0 rfl rfl 0 (by decide) (hts (.fieldLink RX1 45 "RumourReasonerModel" "thrown" "I") (by decide +kernel)) (fun _ h9 => h9) rfl (by decide +kernel) rfl rfl (Nat.le_of_ble_eq_true rfl) dX1_let_13 (fun H locs hP hD hS => ?_)
  have hP : va_P D vwCl (wM bd cI cZ cJ (nI 1) n kd fi se sd tr on sy lt ru lg rs) H := hP
  have hD : va_D A (wM bd cI cZ cJ (nI 1) n kd fi se sd tr on sy lt ru lg rs) := hD
  refine lv_aload_n hx hb dX1_let_16 rfl (lv_at hl 0 rfl) ?_
  refine va_get (D := D) (ci := 1) (v := .int (nI 1)) (C := RX1) (T := TX1) (N := 13) hx hb hts hin0 hown hK hP 0 rfl rfl 0 (by decide) (hts (.fieldLink RX1 45 "RumourReasonerModel" "thrown" "I") (by decide +kernel)) (fun _ h9 => h9) rfl dX1_let_17 ?_
  refine zF_eq (tgt := 25) hx hb dX1_let_20 (by decide) (by decide) ?_
  refine lv_iconst (v := nI 0) hx hb dX1_let_23 (by decide) ?_
  exact kret _ rs _ _ _ _ (rfl) hP hS dX1_let_24

theorem hin_X1_setRule : ∀ w ∈ wsX10, w ∈ wsX1_setRule := by first | exact fun _ h => List.mem_cons_of_mem _ (List.mem_append_right _ h) | exact fun _ h => List.mem_cons_of_mem _ (List.mem_append_left _ (List.mem_append_right _ h)) | exact fun _ h => List.mem_cons_of_mem _ (List.mem_append_left _ (List.mem_append_left _ (List.mem_append_right _ h))) | exact fun _ h => List.mem_cons_of_mem _ (List.mem_append_left _ (List.mem_append_left _ (List.mem_append_left _ (List.mem_append_right _ h)))) | decide +kernel
def rm_X1_setRule : Room := { frames := 2, cells := 0, slots := 0, locals := 43 }
set_option maxHeartbeats 4000000 in
set_option maxRecDepth 100000 in
theorem c_X1_setRule_0 (a : Nat) (ha : a < 6) : MuI l yX1_setRule wsX1_setRule rm_X1_setRule D vwCl (wM bd cI cZ cJ th n kd fi se sd tr on sy lt ru lg rs) (fun u => wM bd cI cZ cJ (nI 0) n kd fi se sd tr on sy lt (va_up ru a none) lg u) (tyC cI cZ cJ) [.ref (bd 0), .int (nI a), .int (rI none)] (rI (ru a)) := by
  refine MuI.of (cc := cX1_setRule) (maxL := 4) (by decide) rfl (Nat.le_of_ble_eq_true rfl) (vp_nar_int _) ?_
  intro A p e s m args below meth c Q ls hx hb hml hown hts hP hK hD kret hl
  have hown : s.vm.findClass RX1 = some m.cls := hown
  have hl : lv_has ls 4 [(0, .ref (bd 0)), (1, .int (nI a)), (2, .int (rI none))] := hl
  have hS : va_S A s.heap s.heap [] := va_S.rf
  have hin0 : ∀ w ∈ u_ws RX1 TX1 13, w ∈ wsX1_setRule := hin_X1_setRule
  refine lv_aload_n hx hb dX1_setRule_0 rfl (lv_at hl 0 rfl) ?_
  refine lv_iconst (v := nI 0) hx hb dX1_setRule_1 (by decide) ?_
  refine va_put (D := D) (ci := 1) (v := .int (nI 0)) (ty := .int) (C := RX1) (T := TX1) (N := 13) hx hb hts hin0 tyX1 tyX1_ok nmX1 hown hK hP hD hS 0 rfl rfl 0 (by decide) (hts (.fieldLink RX1 45 "RumourReasonerModel" "thrown" "I") (by decide +kernel)) (fun _ h9 => h9) rfl (by decide +kernel) rfl rfl (Nat.le_of_ble_eq_true rfl) dX1_setRule_2 (fun H locs hP hD hS => ?_)
  have hP : va_P D vwCl (wM bd cI cZ cJ (nI 0) n kd fi se sd tr on sy lt ru lg rs) H := hP
  have hD : va_D A (wM bd cI cZ cJ (nI 0) n kd fi se sd tr on sy lt ru lg rs) := hD
  refine lv_iload_n hx hb dX1_setRule_5 rfl (lv_at hl 1 rfl) ?_
  refine puI_S (own := RX1) (As := [.int (nI a)]) (rest := []) ⟨hx, hb, hml, hown, hts⟩ (c_X1_isAtom l D (nI a)) gX1_setRule_X1_isAtom rfl ⟨rfl, rfl⟩ 1 rfl (by decide +kernel) ⟨Nat.le_of_ble_eq_true rfl, Nat.le_of_ble_eq_true rfl⟩ nilP (hK.sub (tys' := []) [] rfl) hS hl.1 rfl (Nat.le_of_ble_eq_true rfl) dX1_setRule_6 ⟨Nat.zero_le _, Nat.zero_le _⟩ (fun H locs hk1 hS => ?_)
  replace hP := keptP hP hk1
  refine tc_int (y := bI true) (by rw [inB_t (by omega) (by omega) (by decide)]) ?_
  refine zF_eq (tgt := 25) hx hb dX1_setRule_9 (by decide) (by decide) ?_
  refine lv_iload_n hx hb dX1_setRule_12 rfl (lv_at hl 2 rfl) ?_
  refine lv_iconst (v := (-1)) hx hb dX1_setRule_13 (by decide) ?_
  refine cT_eq (tgt := 31) hx hb dX1_setRule_14 (by decide) (rfl) ?_
  refine lv_iload_n hx hb dX1_setRule_31 rfl (lv_at hl 2 rfl) ?_
  refine lv_iconst (v := (-1)) hx hb dX1_setRule_32 (by decide) ?_
  refine cT_eq (tgt := 51) hx hb dX1_setRule_33 (by decide) (rfl) ?_
  refine lv_aload_n hx hb dX1_setRule_51 rfl (lv_at hl 0 rfl) ?_
  refine va_get (D := D) (ci := 1) (v := .ref (bd 8)) (C := RX1) (T := TX1) (N := 13) hx hb hts hin0 hown hK hP 0 rfl rfl 10 (by decide) (hts (.fieldLink RX1 36 "RumourReasonerModel" "rules" "[I") (by decide +kernel)) (fun _ h9 => h9) rfl dX1_setRule_52 ?_
  refine lv_iload_n hx hb dX1_setRule_55 rfl (lv_at hl 1 rfl) ?_
  refine ld_ni hx hb hK hP 8 0 rfl rfl (j := a) (by omega) (by decide) dX1_setRule_56 ?_
  refine lv_istore_n (lv' := [(3, .int (rI (ru a))), (0, .ref (bd 0)), (1, .int (nI a)), (2, .int (rI none))]) hx hb dX1_setRule_57 rfl hl (by decide) rfl (fun ls hl => ?_)
  refine lv_aload_n hx hb dX1_setRule_58 rfl (lv_at hl 1 rfl) ?_
  refine va_get (D := D) (ci := 1) (v := .ref (bd 8)) (C := RX1) (T := TX1) (N := 13) hx hb hts hin0 hown hK hP 0 rfl rfl 10 (by decide) (hts (.fieldLink RX1 36 "RumourReasonerModel" "rules" "[I") (by decide +kernel)) (fun _ h9 => h9) rfl dX1_setRule_59 ?_
  refine lv_iload_n hx hb dX1_setRule_62 rfl (lv_at hl 2 rfl) ?_
  refine lv_iload_n hx hb dX1_setRule_63 rfl (lv_at hl 3 rfl) ?_
  refine st_ni hx hb hK hP hD hS 8 0 rfl rfl (j := a) (by omega) (by decide) dX1_setRule_64 (fun H locs hP hD hS => ?_)
  replace hP : va_P D vwCl (wM bd cI cZ cJ (nI 0) n kd fi se sd tr on sy lt (va_up ru a none) lg rs) H := by rw [upR] at hP; exact hP
  replace hD : va_D A (wM bd cI cZ cJ (nI 0) n kd fi se sd tr on sy lt (va_up ru a none) lg rs) := sameD2 hD rfl
  refine lv_iload_n hx hb dX1_setRule_65 rfl (lv_at hl 0 rfl) ?_
  exact kret _ rs _ _ _ _ (rfl) hP hS dX1_setRule_66

set_option maxHeartbeats 4000000 in
set_option maxRecDepth 100000 in
theorem c_X1_setRule_1 (hM : OKM n kd fi se tr sy lt lg ru) (a f : Nat) (ha : a < 6) (hf : f < n) (hs : sd f = true) : MuI l yX1_setRule wsX1_setRule rm_X1_setRule D vwCl (wM bd cI cZ cJ th n kd fi se sd tr on sy lt ru lg rs) (fun u => wM bd cI cZ cJ (nI 0) n kd fi se sd tr on sy lt (va_up ru a (some f)) lg u) (tyC cI cZ cJ) [.ref (bd 0), .int (nI a), .int (rI (some f))] (rI (ru a)) := by
  refine MuI.of (cc := cX1_setRule) (maxL := 4) (by decide) rfl (Nat.le_of_ble_eq_true rfl) (vp_nar_int _) ?_
  intro A p e s m args below meth c Q ls hx hb hml hown hts hP hK hD kret hl
  have hown : s.vm.findClass RX1 = some m.cls := hown
  have hl : lv_has ls 4 [(0, .ref (bd 0)), (1, .int (nI a)), (2, .int (rI (some f)))] := hl
  have hS : va_S A s.heap s.heap [] := va_S.rf
  have hin0 : ∀ w ∈ u_ws RX1 TX1 13, w ∈ wsX1_setRule := hin_X1_setRule
  have hn41 := hM.1
  refine lv_aload_n hx hb dX1_setRule_0 rfl (lv_at hl 0 rfl) ?_
  refine lv_iconst (v := nI 0) hx hb dX1_setRule_1 (by decide) ?_
  refine va_put (D := D) (ci := 1) (v := .int (nI 0)) (ty := .int) (C := RX1) (T := TX1) (N := 13) hx hb hts hin0 tyX1 tyX1_ok nmX1 hown hK hP hD hS 0 rfl rfl 0 (by decide) (hts (.fieldLink RX1 45 "RumourReasonerModel" "thrown" "I") (by decide +kernel)) (fun _ h9 => h9) rfl (by decide +kernel) rfl rfl (Nat.le_of_ble_eq_true rfl) dX1_setRule_2 (fun H locs hP hD hS => ?_)
  have hP : va_P D vwCl (wM bd cI cZ cJ (nI 0) n kd fi se sd tr on sy lt ru lg rs) H := hP
  have hD : va_D A (wM bd cI cZ cJ (nI 0) n kd fi se sd tr on sy lt ru lg rs) := hD
  refine lv_iload_n hx hb dX1_setRule_5 rfl (lv_at hl 1 rfl) ?_
  refine puI_S (own := RX1) (As := [.int (nI a)]) (rest := []) ⟨hx, hb, hml, hown, hts⟩ (c_X1_isAtom l D (nI a)) gX1_setRule_X1_isAtom rfl ⟨rfl, rfl⟩ 1 rfl (by decide +kernel) ⟨Nat.le_of_ble_eq_true rfl, Nat.le_of_ble_eq_true rfl⟩ nilP (hK.sub (tys' := []) [] rfl) hS hl.1 rfl (Nat.le_of_ble_eq_true rfl) dX1_setRule_6 ⟨Nat.zero_le _, Nat.zero_le _⟩ (fun H locs hk1 hS => ?_)
  replace hP := keptP hP hk1
  refine tc_int (y := bI true) (by rw [inB_t (by omega) (by omega) (by decide)]) ?_
  refine zF_eq (tgt := 25) hx hb dX1_setRule_9 (by decide) (by decide) ?_
  refine lv_iload_n hx hb dX1_setRule_12 rfl (lv_at hl 2 rfl) ?_
  refine lv_iconst (v := (-1)) hx hb dX1_setRule_13 (by decide) ?_
  refine cF_eq (tgt := 31) hx hb dX1_setRule_14 (by decide) (rI_ne (by omega)) ?_
  refine lv_aload_n hx hb dX1_setRule_17 rfl (lv_at hl 0 rfl) ?_
  refine lv_iload_n hx hb dX1_setRule_18 rfl (lv_at hl 2 rfl) ?_
  refine tc_int (y := nI f) (rfl) ?_
  refine puI_V (own := RX1) (As := [.int (nI f)]) (rest := []) (C := RX1) (ci := 1) (q0 := 0) ⟨hx, hb, hml, hown, hts⟩ (c_X1_isFormula l D bd cI cZ cJ (nI 0) n kd fi se sd tr on sy lt ru lg rs (nI f)) gX1_setRule_X1_isFormula rfl ⟨rfl, rfl⟩ 1 rfl (by decide +kernel) ⟨Nat.le_of_ble_eq_true rfl, Nat.le_of_ble_eq_true rfl⟩ hP hK rfl rfl rfl hS hl.1 rfl (Nat.le_of_ble_eq_true rfl) dX1_setRule_19 ⟨Nat.zero_le _, Nat.zero_le _⟩ (fun H locs hk1 hS => ?_)
  replace hP := keptP hP hk1
  refine tc_int (y := bI true) (by rw [isF_t hf hM.1]) ?_
  refine zT_ne (tgt := 31) hx hb dX1_setRule_22 (by decide) (by decide) ?_
  refine lv_iload_n hx hb dX1_setRule_31 rfl (lv_at hl 2 rfl) ?_
  refine lv_iconst (v := (-1)) hx hb dX1_setRule_32 (by decide) ?_
  refine cF_eq (tgt := 51) hx hb dX1_setRule_33 (by decide) (rI_ne (by omega)) ?_
  refine lv_aload_n hx hb dX1_setRule_36 rfl (lv_at hl 0 rfl) ?_
  refine va_get (D := D) (ci := 1) (v := .ref (bd 4)) (C := RX1) (T := TX1) (N := 13) hx hb hts hin0 hown hK hP 0 rfl rfl 5 (by decide) (hts (.fieldLink RX1 19 "RumourReasonerModel" "areSteady" "[Z") (by decide +kernel)) (fun _ h9 => h9) rfl dX1_setRule_37 ?_
  refine lv_iload_n hx hb dX1_setRule_40 rfl (lv_at hl 2 rfl) ?_
  refine tc_int (y := nI f) (rfl) ?_
  refine ld_nz hx hb hK hP 4 1 rfl rfl (j := f) (by omega) (by decide) dX1_setRule_41 ?_
  refine zT_ne (tgt := 51) hx hb dX1_setRule_42 (by decide) (bI_t hs) ?_
  refine lv_aload_n hx hb dX1_setRule_51 rfl (lv_at hl 0 rfl) ?_
  refine va_get (D := D) (ci := 1) (v := .ref (bd 8)) (C := RX1) (T := TX1) (N := 13) hx hb hts hin0 hown hK hP 0 rfl rfl 10 (by decide) (hts (.fieldLink RX1 36 "RumourReasonerModel" "rules" "[I") (by decide +kernel)) (fun _ h9 => h9) rfl dX1_setRule_52 ?_
  refine lv_iload_n hx hb dX1_setRule_55 rfl (lv_at hl 1 rfl) ?_
  refine ld_ni hx hb hK hP 8 0 rfl rfl (j := a) (by omega) (by decide) dX1_setRule_56 ?_
  refine lv_istore_n (lv' := [(3, .int (rI (ru a))), (0, .ref (bd 0)), (1, .int (nI a)), (2, .int (rI (some f)))]) hx hb dX1_setRule_57 rfl hl (by decide) rfl (fun ls hl => ?_)
  refine lv_aload_n hx hb dX1_setRule_58 rfl (lv_at hl 1 rfl) ?_
  refine va_get (D := D) (ci := 1) (v := .ref (bd 8)) (C := RX1) (T := TX1) (N := 13) hx hb hts hin0 hown hK hP 0 rfl rfl 10 (by decide) (hts (.fieldLink RX1 36 "RumourReasonerModel" "rules" "[I") (by decide +kernel)) (fun _ h9 => h9) rfl dX1_setRule_59 ?_
  refine lv_iload_n hx hb dX1_setRule_62 rfl (lv_at hl 2 rfl) ?_
  refine lv_iload_n hx hb dX1_setRule_63 rfl (lv_at hl 3 rfl) ?_
  refine st_ni hx hb hK hP hD hS 8 0 rfl rfl (j := a) (by omega) (by decide) dX1_setRule_64 (fun H locs hP hD hS => ?_)
  replace hP : va_P D vwCl (wM bd cI cZ cJ (nI 0) n kd fi se sd tr on sy lt (va_up ru a (some f)) lg rs) H := by rw [upR] at hP; exact hP
  replace hD : va_D A (wM bd cI cZ cJ (nI 0) n kd fi se sd tr on sy lt (va_up ru a (some f)) lg rs) := sameD2 hD rfl
  refine lv_iload_n hx hb dX1_setRule_65 rfl (lv_at hl 0 rfl) ?_
  exact kret _ rs _ _ _ _ (rfl) hP hS dX1_setRule_66

set_option maxHeartbeats 4000000 in
set_option maxRecDepth 100000 in
theorem d_X1_setRule_1 (y : Int32) (x : Int32) (hx9 : x < 0 ∨ nI 6 ≤ x) : MuI l yX1_setRule wsX1_setRule rm_X1_setRule D vwCl (wM bd cI cZ cJ th n kd fi se sd tr on sy lt ru lg rs) (fun u => wM bd cI cZ cJ (nI 1) n kd fi se sd tr on sy lt ru lg u) (tyC cI cZ cJ) [.ref (bd 0), .int x, .int y] (nI 0) := by
  refine MuI.of (cc := cX1_setRule) (maxL := 4) (by decide) rfl (Nat.le_of_ble_eq_true rfl) (vp_nar_int _) ?_
  intro A p e s m args below meth c Q ls hx hb hml hown hts hP hK hD kret hl
  have hown : s.vm.findClass RX1 = some m.cls := hown
  have hl : lv_has ls 4 [(0, .ref (bd 0)), (1, .int x), (2, .int y)] := hl
  have hS : va_S A s.heap s.heap [] := va_S.rf
  have hin0 : ∀ w ∈ u_ws RX1 TX1 13, w ∈ wsX1_setRule := hin_X1_setRule
  refine lv_aload_n hx hb dX1_setRule_0 rfl (lv_at hl 0 rfl) ?_
  refine lv_iconst (v := nI 0) hx hb dX1_setRule_1 (by decide) ?_
  refine va_put (D := D) (ci := 1) (v := .int (nI 0)) (ty := .int) (C := RX1) (T := TX1) (N := 13) hx hb hts hin0 tyX1 tyX1_ok nmX1 hown hK hP hD hS 0 rfl rfl 0 (by decide) (hts (.fieldLink RX1 45 "RumourReasonerModel" "thrown" "I") (by decide +kernel)) (fun _ h9 => h9) rfl (by decide +kernel) rfl rfl (Nat.le_of_ble_eq_true rfl) dX1_setRule_2 (fun H locs hP hD hS => ?_)
  have hP : va_P D vwCl (wM bd cI cZ cJ (nI 0) n kd fi se sd tr on sy lt ru lg rs) H := hP
  have hD : va_D A (wM bd cI cZ cJ (nI 0) n kd fi se sd tr on sy lt ru lg rs) := hD
  refine lv_iload_n hx hb dX1_setRule_5 rfl (lv_at hl 1 rfl) ?_
  refine puI_S (own := RX1) (As := [.int x]) (rest := []) ⟨hx, hb, hml, hown, hts⟩ (c_X1_isAtom l D x) gX1_setRule_X1_isAtom rfl ⟨rfl, rfl⟩ 1 rfl (by decide +kernel) ⟨Nat.le_of_ble_eq_true rfl, Nat.le_of_ble_eq_true rfl⟩ nilP (hK.sub (tys' := []) [] rfl) hS hl.1 rfl (Nat.le_of_ble_eq_true rfl) dX1_setRule_6 ⟨Nat.zero_le _, Nat.zero_le _⟩ (fun H locs hk1 hS => ?_)
  replace hP := keptP hP hk1
  refine tc_int (y := bI false) (by rw [inB_bad hx9 (by decide)]) ?_
  refine zT_eq (tgt := 25) hx hb dX1_setRule_9 (by decide) (rfl) ?_
  refine lv_aload_n hx hb dX1_setRule_25 rfl (lv_at hl 0 rfl) ?_
  refine lv_iconst (v := nI 1) hx hb dX1_setRule_26 (by decide) ?_
  refine muI_V (own := RX1) (As := [.int (nI 1)]) (rest := []) (C := RX1) (ci := 1) (q0 := 0) (A1 := A) ⟨hx, hb, hml, hown, hts⟩ (c_X1_no l D bd cI cZ cJ (nI 0) n kd fi se sd tr on sy lt ru lg rs 1) gX1_setRule_X1_no rfl ⟨rfl, rfl⟩ 1 rfl (by decide +kernel) ⟨Nat.le_of_ble_eq_true rfl, Nat.le_of_ble_eq_true rfl⟩ hP hK hD (fun _ h9 => h9) rfl rfl rfl hS hl.1 rfl (Nat.le_of_ble_eq_true rfl) dX1_setRule_27 ⟨Nat.zero_le _, Nat.zero_le _⟩ (fun u1 H locs hP hz1 hk1 hS => ?_)
  replace hP : va_P D vwCl (wM bd cI cZ cJ (nI 1) n kd fi se sd tr on sy lt ru lg u1) H := hP
  replace hD : va_D A (wM bd cI cZ cJ (nI 1) n kd fi se sd tr on sy lt ru lg u1) := sameD2 hD rfl
  exact kret _ u1 _ _ _ _ (rfl) hP hS dX1_setRule_30

set_option maxHeartbeats 4000000 in
set_option maxRecDepth 100000 in
theorem d_X1_setRule_2 (hM : OKM n kd fi se tr sy lt lg ru) (a : Nat) (ha : a < 6) (x : Int32) (hx9 : x < 0 ∨ nI n ≤ x) (hx8 : ¬ x = -1) : MuI l yX1_setRule wsX1_setRule rm_X1_setRule D vwCl (wM bd cI cZ cJ th n kd fi se sd tr on sy lt ru lg rs) (fun u => wM bd cI cZ cJ (nI 1) n kd fi se sd tr on sy lt ru lg u) (tyC cI cZ cJ) [.ref (bd 0), .int (nI a), .int x] (nI 0) := by
  refine MuI.of (cc := cX1_setRule) (maxL := 4) (by decide) rfl (Nat.le_of_ble_eq_true rfl) (vp_nar_int _) ?_
  intro A p e s m args below meth c Q ls hx hb hml hown hts hP hK hD kret hl
  have hown : s.vm.findClass RX1 = some m.cls := hown
  have hl : lv_has ls 4 [(0, .ref (bd 0)), (1, .int (nI a)), (2, .int x)] := hl
  have hS : va_S A s.heap s.heap [] := va_S.rf
  have hin0 : ∀ w ∈ u_ws RX1 TX1 13, w ∈ wsX1_setRule := hin_X1_setRule
  refine lv_aload_n hx hb dX1_setRule_0 rfl (lv_at hl 0 rfl) ?_
  refine lv_iconst (v := nI 0) hx hb dX1_setRule_1 (by decide) ?_
  refine va_put (D := D) (ci := 1) (v := .int (nI 0)) (ty := .int) (C := RX1) (T := TX1) (N := 13) hx hb hts hin0 tyX1 tyX1_ok nmX1 hown hK hP hD hS 0 rfl rfl 0 (by decide) (hts (.fieldLink RX1 45 "RumourReasonerModel" "thrown" "I") (by decide +kernel)) (fun _ h9 => h9) rfl (by decide +kernel) rfl rfl (Nat.le_of_ble_eq_true rfl) dX1_setRule_2 (fun H locs hP hD hS => ?_)
  have hP : va_P D vwCl (wM bd cI cZ cJ (nI 0) n kd fi se sd tr on sy lt ru lg rs) H := hP
  have hD : va_D A (wM bd cI cZ cJ (nI 0) n kd fi se sd tr on sy lt ru lg rs) := hD
  refine lv_iload_n hx hb dX1_setRule_5 rfl (lv_at hl 1 rfl) ?_
  refine puI_S (own := RX1) (As := [.int (nI a)]) (rest := []) ⟨hx, hb, hml, hown, hts⟩ (c_X1_isAtom l D (nI a)) gX1_setRule_X1_isAtom rfl ⟨rfl, rfl⟩ 1 rfl (by decide +kernel) ⟨Nat.le_of_ble_eq_true rfl, Nat.le_of_ble_eq_true rfl⟩ nilP (hK.sub (tys' := []) [] rfl) hS hl.1 rfl (Nat.le_of_ble_eq_true rfl) dX1_setRule_6 ⟨Nat.zero_le _, Nat.zero_le _⟩ (fun H locs hk1 hS => ?_)
  replace hP := keptP hP hk1
  refine tc_int (y := bI true) (by rw [inB_t (by omega) (by omega) (by decide)]) ?_
  refine zF_eq (tgt := 25) hx hb dX1_setRule_9 (by decide) (by decide) ?_
  refine lv_iload_n hx hb dX1_setRule_12 rfl (lv_at hl 2 rfl) ?_
  refine lv_iconst (v := (-1)) hx hb dX1_setRule_13 (by decide) ?_
  refine cF_eq (tgt := 31) hx hb dX1_setRule_14 (by decide) (hx8) ?_
  refine lv_aload_n hx hb dX1_setRule_17 rfl (lv_at hl 0 rfl) ?_
  refine lv_iload_n hx hb dX1_setRule_18 rfl (lv_at hl 2 rfl) ?_
  refine puI_V (own := RX1) (As := [.int x]) (rest := []) (C := RX1) (ci := 1) (q0 := 0) ⟨hx, hb, hml, hown, hts⟩ (c_X1_isFormula l D bd cI cZ cJ (nI 0) n kd fi se sd tr on sy lt ru lg rs x) gX1_setRule_X1_isFormula rfl ⟨rfl, rfl⟩ 1 rfl (by decide +kernel) ⟨Nat.le_of_ble_eq_true rfl, Nat.le_of_ble_eq_true rfl⟩ hP hK rfl rfl rfl hS hl.1 rfl (Nat.le_of_ble_eq_true rfl) dX1_setRule_19 ⟨Nat.zero_le _, Nat.zero_le _⟩ (fun H locs hk1 hS => ?_)
  replace hP := keptP hP hk1
  refine tc_int (y := bI false) (by rw [isF_f hx9 hM.1]) ?_
  refine zF_ne (tgt := 31) hx hb dX1_setRule_22 (by decide) (rfl) ?_
  refine lv_aload_n hx hb dX1_setRule_25 rfl (lv_at hl 0 rfl) ?_
  refine lv_iconst (v := nI 1) hx hb dX1_setRule_26 (by decide) ?_
  refine muI_V (own := RX1) (As := [.int (nI 1)]) (rest := []) (C := RX1) (ci := 1) (q0 := 0) (A1 := A) ⟨hx, hb, hml, hown, hts⟩ (c_X1_no l D bd cI cZ cJ (nI 0) n kd fi se sd tr on sy lt ru lg rs 1) gX1_setRule_X1_no rfl ⟨rfl, rfl⟩ 1 rfl (by decide +kernel) ⟨Nat.le_of_ble_eq_true rfl, Nat.le_of_ble_eq_true rfl⟩ hP hK hD (fun _ h9 => h9) rfl rfl rfl hS hl.1 rfl (Nat.le_of_ble_eq_true rfl) dX1_setRule_27 ⟨Nat.zero_le _, Nat.zero_le _⟩ (fun u1 H locs hP hz1 hk1 hS => ?_)
  replace hP : va_P D vwCl (wM bd cI cZ cJ (nI 1) n kd fi se sd tr on sy lt ru lg u1) H := hP
  replace hD : va_D A (wM bd cI cZ cJ (nI 1) n kd fi se sd tr on sy lt ru lg u1) := sameD2 hD rfl
  exact kret _ u1 _ _ _ _ (rfl) hP hS dX1_setRule_30

set_option maxHeartbeats 4000000 in
set_option maxRecDepth 100000 in
theorem d_X1_setRule_3 (hM : OKM n kd fi se tr sy lt lg ru) (a f : Nat) (ha : a < 6) (hf : f < n) (hs : sd f = false) : MuI l yX1_setRule wsX1_setRule rm_X1_setRule D vwCl (wM bd cI cZ cJ th n kd fi se sd tr on sy lt ru lg rs) (fun u => wM bd cI cZ cJ (nI 2) n kd fi se sd tr on sy lt ru lg u) (tyC cI cZ cJ) [.ref (bd 0), .int (nI a), .int (nI f)] (nI 0) := by
  refine MuI.of (cc := cX1_setRule) (maxL := 4) (by decide) rfl (Nat.le_of_ble_eq_true rfl) (vp_nar_int _) ?_
  intro A p e s m args below meth c Q ls hx hb hml hown hts hP hK hD kret hl
  have hown : s.vm.findClass RX1 = some m.cls := hown
  have hl : lv_has ls 4 [(0, .ref (bd 0)), (1, .int (nI a)), (2, .int (nI f))] := hl
  have hS : va_S A s.heap s.heap [] := va_S.rf
  have hin0 : ∀ w ∈ u_ws RX1 TX1 13, w ∈ wsX1_setRule := hin_X1_setRule
  have hn41 := hM.1
  refine lv_aload_n hx hb dX1_setRule_0 rfl (lv_at hl 0 rfl) ?_
  refine lv_iconst (v := nI 0) hx hb dX1_setRule_1 (by decide) ?_
  refine va_put (D := D) (ci := 1) (v := .int (nI 0)) (ty := .int) (C := RX1) (T := TX1) (N := 13) hx hb hts hin0 tyX1 tyX1_ok nmX1 hown hK hP hD hS 0 rfl rfl 0 (by decide) (hts (.fieldLink RX1 45 "RumourReasonerModel" "thrown" "I") (by decide +kernel)) (fun _ h9 => h9) rfl (by decide +kernel) rfl rfl (Nat.le_of_ble_eq_true rfl) dX1_setRule_2 (fun H locs hP hD hS => ?_)
  have hP : va_P D vwCl (wM bd cI cZ cJ (nI 0) n kd fi se sd tr on sy lt ru lg rs) H := hP
  have hD : va_D A (wM bd cI cZ cJ (nI 0) n kd fi se sd tr on sy lt ru lg rs) := hD
  refine lv_iload_n hx hb dX1_setRule_5 rfl (lv_at hl 1 rfl) ?_
  refine puI_S (own := RX1) (As := [.int (nI a)]) (rest := []) ⟨hx, hb, hml, hown, hts⟩ (c_X1_isAtom l D (nI a)) gX1_setRule_X1_isAtom rfl ⟨rfl, rfl⟩ 1 rfl (by decide +kernel) ⟨Nat.le_of_ble_eq_true rfl, Nat.le_of_ble_eq_true rfl⟩ nilP (hK.sub (tys' := []) [] rfl) hS hl.1 rfl (Nat.le_of_ble_eq_true rfl) dX1_setRule_6 ⟨Nat.zero_le _, Nat.zero_le _⟩ (fun H locs hk1 hS => ?_)
  replace hP := keptP hP hk1
  refine tc_int (y := bI true) (by rw [inB_t (by omega) (by omega) (by decide)]) ?_
  refine zF_eq (tgt := 25) hx hb dX1_setRule_9 (by decide) (by decide) ?_
  refine lv_iload_n hx hb dX1_setRule_12 rfl (lv_at hl 2 rfl) ?_
  refine lv_iconst (v := (-1)) hx hb dX1_setRule_13 (by decide) ?_
  refine cF_eq (tgt := 31) hx hb dX1_setRule_14 (by decide) (rI_ne (by omega)) ?_
  refine lv_aload_n hx hb dX1_setRule_17 rfl (lv_at hl 0 rfl) ?_
  refine lv_iload_n hx hb dX1_setRule_18 rfl (lv_at hl 2 rfl) ?_
  refine puI_V (own := RX1) (As := [.int (nI f)]) (rest := []) (C := RX1) (ci := 1) (q0 := 0) ⟨hx, hb, hml, hown, hts⟩ (c_X1_isFormula l D bd cI cZ cJ (nI 0) n kd fi se sd tr on sy lt ru lg rs (nI f)) gX1_setRule_X1_isFormula rfl ⟨rfl, rfl⟩ 1 rfl (by decide +kernel) ⟨Nat.le_of_ble_eq_true rfl, Nat.le_of_ble_eq_true rfl⟩ hP hK rfl rfl rfl hS hl.1 rfl (Nat.le_of_ble_eq_true rfl) dX1_setRule_19 ⟨Nat.zero_le _, Nat.zero_le _⟩ (fun H locs hk1 hS => ?_)
  replace hP := keptP hP hk1
  refine tc_int (y := bI true) (by rw [isF_t hf hM.1]) ?_
  refine zT_ne (tgt := 31) hx hb dX1_setRule_22 (by decide) (by decide) ?_
  refine lv_iload_n hx hb dX1_setRule_31 rfl (lv_at hl 2 rfl) ?_
  refine lv_iconst (v := (-1)) hx hb dX1_setRule_32 (by decide) ?_
  refine cF_eq (tgt := 51) hx hb dX1_setRule_33 (by decide) (rI_ne (by omega)) ?_
  refine lv_aload_n hx hb dX1_setRule_36 rfl (lv_at hl 0 rfl) ?_
  refine va_get (D := D) (ci := 1) (v := .ref (bd 4)) (C := RX1) (T := TX1) (N := 13) hx hb hts hin0 hown hK hP 0 rfl rfl 5 (by decide) (hts (.fieldLink RX1 19 "RumourReasonerModel" "areSteady" "[Z") (by decide +kernel)) (fun _ h9 => h9) rfl dX1_setRule_37 ?_
  refine lv_iload_n hx hb dX1_setRule_40 rfl (lv_at hl 2 rfl) ?_
  refine ld_nz hx hb hK hP 4 1 rfl rfl (j := f) (by omega) (by decide) dX1_setRule_41 ?_
  refine zF_ne (tgt := 51) hx hb dX1_setRule_42 (by decide) (bI_f hs) ?_
  refine lv_aload_n hx hb dX1_setRule_45 rfl (lv_at hl 0 rfl) ?_
  refine lv_iconst (v := nI 2) hx hb dX1_setRule_46 (by decide) ?_
  refine muI_V (own := RX1) (As := [.int (nI 2)]) (rest := []) (C := RX1) (ci := 1) (q0 := 0) (A1 := A) ⟨hx, hb, hml, hown, hts⟩ (c_X1_no l D bd cI cZ cJ (nI 0) n kd fi se sd tr on sy lt ru lg rs 2) gX1_setRule_X1_no rfl ⟨rfl, rfl⟩ 1 rfl (by decide +kernel) ⟨Nat.le_of_ble_eq_true rfl, Nat.le_of_ble_eq_true rfl⟩ hP hK hD (fun _ h9 => h9) rfl rfl rfl hS hl.1 rfl (Nat.le_of_ble_eq_true rfl) dX1_setRule_47 ⟨Nat.zero_le _, Nat.zero_le _⟩ (fun u1 H locs hP hz1 hk1 hS => ?_)
  replace hP : va_P D vwCl (wM bd cI cZ cJ (nI 2) n kd fi se sd tr on sy lt ru lg u1) H := hP
  replace hD : va_D A (wM bd cI cZ cJ (nI 2) n kd fi se sd tr on sy lt ru lg u1) := sameD2 hD rfl
  exact kret _ u1 _ _ _ _ (rfl) hP hS dX1_setRule_50

end
