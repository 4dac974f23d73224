section
variable (l : Launch) (D : va_G) (bd : Nat → Nat) (cI cZ cJ : ClassId) (th : Int32) (n : Nat) (kd fi se : Nat → Nat) (sd : Nat → Bool) (tr : Nat → Nat) (on : Nat → Bool) (sy : Nat → Nat) (lt : Nat) (ru : Nat → Option Nat) (lg : Nat) (rs : Nat → Int32)
theorem hin_X1_models : ∀ w ∈ wsX10, w ∈ wsX1_models := by first | exact fun _ h => List.mem_cons_of_mem _ (List.mem_append_right _ h) | exact fun _ h => List.mem_cons_of_mem _ (List.mem_append_left _ (List.mem_append_right _ h)) | exact fun _ h => List.mem_cons_of_mem _ (List.mem_append_left _ (List.mem_append_left _ (List.mem_append_right _ h))) | exact fun _ h => List.mem_cons_of_mem _ (List.mem_append_left _ (List.mem_append_left _ (List.mem_append_left _ (List.mem_append_right _ h)))) | decide +kernel
def rm_X1_models : Room := { frames := 3, cells := 0, slots := 0, locals := 69 }
set_option maxHeartbeats 4000000 in
set_option maxRecDepth 100000 in
theorem c_X1_models (hM : OKM n kd fi se tr sy lt lg ru) (a : Nat) (ha : a < n) : MuI l yX1_models wsX1_models rm_X1_models D vwCl (wM bd cI cZ cJ th n kd fi se sd tr on sy lt ru lg rs) (fun u => wM bd cI cZ cJ (nI 0) n kd fi se sd tr on sy lt ru lg u) (tyC cI cZ cJ) [.ref (bd 0), .int (nI a)] (nI (fb_ct (fun v => cnS lg v 6 && told (wv kd fi se a v) true) 4096)) := by
  refine MuI.of (cc := cX1_models) (maxL := 4) (by decide) rfl (Nat.le_of_ble_eq_true rfl) (vp_nar_int _) ?_
  intro A p e s m args below meth c Q ls hx hb hml hown hts hP hK hD kret hl
  have hown : s.vm.findClass RX1 = some m.cls := hown
  have hl : lv_has ls 4 [(0, .ref (bd 0)), (1, .int (nI a))] := hl
  have hS : va_S A s.heap s.heap [] := va_S.rf
  have hin0 : ∀ w ∈ u_ws RX1 TX1 13, w ∈ wsX1_models := hin_X1_models
  refine lv_aload_n hx hb dX1_models_0 rfl (lv_at hl 0 rfl) ?_
  refine lv_iconst (v := nI 0) hx hb dX1_models_1 (by decide) ?_
  refine va_put (D := D) (ci := 1) (v := .int (nI 0)) (ty := .int) (C := RX1) (T := TX1) (N := 13) hx hb hts hin0 tyX1 tyX1_ok nmX1 hown hK hP hD hS 0 rfl rfl 0 (by decide) (hts (.fieldLink RX1 45 "RumourReasonerModel" "thrown" "I") (by decide +kernel)) (fun _ h9 => h9) rfl (by decide +kernel) rfl rfl (Nat.le_of_ble_eq_true rfl) dX1_models_2 (fun H locs hP hD hS => ?_)
  have hP : va_P D vwCl (wM bd cI cZ cJ (nI 0) n kd fi se sd tr on sy lt ru lg rs) H := hP
  have hD : va_D A (wM bd cI cZ cJ (nI 0) n kd fi se sd tr on sy lt ru lg rs) := hD
  refine lv_aload_n hx hb dX1_models_5 rfl (lv_at hl 0 rfl) ?_
  refine lv_iload_n hx hb dX1_models_6 rfl (lv_at hl 1 rfl) ?_
  refine puI_V (own := RX1) (As := [.int (nI a)]) (rest := []) (C := RX1) (ci := 1) (q0 := 0) ⟨hx, hb, hml, hown, hts⟩ (c_X1_isFormula l D bd cI cZ cJ (nI 0) n kd fi se sd tr on sy lt ru lg rs (nI a)) gX1_models_X1_isFormula rfl ⟨rfl, rfl⟩ 1 rfl (by decide +kernel) ⟨Nat.le_of_ble_eq_true rfl, Nat.le_of_ble_eq_true rfl⟩ hP hK rfl rfl rfl hS hl.1 rfl (Nat.le_of_ble_eq_true rfl) dX1_models_7 ⟨Nat.zero_le _, Nat.zero_le _⟩ (fun H locs hk1 hS => ?_)
  replace hP := keptP hP hk1
  refine tc_int (y := bI true) (by rw [isF_t ha hM.1]) ?_
  refine zT_ne (tgt := 19) hx hb dX1_models_10 (by decide) (by decide) ?_
  refine lv_iconst (v := nI 0) hx hb dX1_models_19 (by decide) ?_
  refine lv_istore_n (lv' := [(2, .int (nI 0)), (0, .ref (bd 0)), (1, .int (nI a))]) hx hb dX1_models_20 rfl hl (by decide) rfl (fun ls hl => ?_)
  refine lv_iconst (v := nI 0) hx hb dX1_models_21 (by decide) ?_
  refine lv_istore_n (lv' := [(3, .int (nI 0)), (2, .int (nI 0)), (0, .ref (bd 0)), (1, .int (nI a))]) hx hb dX1_models_22 rfl hl (by decide) rfl (fun ls hl => ?_)
  have key1 : ∀ (d3 v2 : Nat), v2 + d3 = 4096 → ∀ (rs_v2 : Nat → Int32), ∀ (H : Heap) (locs : List Loc) (ls : Array Slot), va_P D vwCl (wM bd cI cZ cJ (nI 0) n kd fi se sd tr on sy lt ru lg rs_v2) H → va_D A (wM bd cI cZ cJ (nI 0) n kd fi se sd tr on sy lt ru lg rs_v2) → va_S A s.heap H locs → lv_has ls 4 [(3, .int (nI v2)), (2, .int (nI (fb_ct (fun v => cnS lg v 6 && told (wv kd fi se a v) true) v2))), (0, .ref (bd 0)), (1, .int (nI a))] → W p l e rm_X1_models s m args below meth c H locs 0 0 Q (F0 m 23 ls []) := by
    intro d3
    induction d3 with
    | zero =>
      intro v2 hi_v2 rs_v2 H locs ls hP hD hS hl
      obtain rfl : v2 = 4096 := by omega
      refine lv_iload_n hx hb dX1_models_23 rfl (lv_at hl 0 rfl) ?_
      refine lv_sipush (v := nI 4096) hx hb dX1_models_24 (by decide) ?_
      refine cT_ge (tgt := 61) hx hb dX1_models_27 (by decide) (nI_le (by omega) (by omega)) ?_
      refine lv_iload_n hx hb dX1_models_61 rfl (lv_at hl 1 rfl) ?_
      exact kret _ rs_v2 _ _ _ _ (rfl) hP hS dX1_models_62
    | succ d3 ih_v2 =>
      intro v2 hi_v2 rs_v2 H locs ls hP hD hS hl
      refine lv_iload_n hx hb dX1_models_23 rfl (lv_at hl 0 rfl) ?_
      refine lv_sipush (v := nI 4096) hx hb dX1_models_24 (by decide) ?_
      refine cF_ge (tgt := 61) hx hb dX1_models_27 (by decide) (nI_ge (by omega) (by omega)) ?_
      refine lv_iload_n hx hb dX1_models_30 rfl (lv_at hl 1 rfl) ?_
      refine lv_aload_n hx hb dX1_models_31 rfl (lv_at hl 2 rfl) ?_
      refine lv_iload_n hx hb dX1_models_32 rfl (lv_at hl 0 rfl) ?_
      refine puI_V (own := RX1) (As := [.int (nI v2)]) (rest := [.int (nI (fb_ct (fun v => cnS lg v 6 && told (wv kd fi se a v) true) v2))]) (C := RX1) (ci := 1) (q0 := 0) ⟨hx, hb, hml, hown, hts⟩ (c_X1_counts l D bd cI cZ cJ (nI 0) n kd fi se sd tr on sy lt ru lg rs_v2 hM v2 (by omega)) gX1_models_X1_counts rfl ⟨rfl, rfl⟩ 1 rfl (by decide +kernel) ⟨Nat.le_of_ble_eq_true rfl, Nat.le_of_ble_eq_true rfl⟩ hP hK rfl rfl rfl hS hl.1 rfl (Nat.le_of_ble_eq_true rfl) dX1_models_33 ⟨Nat.zero_le _, Nat.zero_le _⟩ (fun H locs hk1 hS => ?_)
      replace hP := keptP hP hk1
      refine lv_if_eq (tgt := 52) hx hb dX1_models_36 (by decide) (fun c_4 => ?_) (fun c_4 => ?_)
      · have e_36 := bI_0 c_4
        refine lv_iconst (v := nI 0) hx hb dX1_models_52 (by decide) ?_
        refine lv_iadd hx hb dX1_models_53 ?_
        refine tc_int (y := nI ((fb_ct (fun v => cnS lg v 6 && told (wv kd fi se a v) true) v2) + 0)) (nI_add _ _) ?_
        refine lv_istore_n (lv' := [(2, .int (nI ((fb_ct (fun v => cnS lg v 6 && told (wv kd fi se a v) true) v2) + 0))), (3, .int (nI v2)), (0, .ref (bd 0)), (1, .int (nI a))]) hx hb dX1_models_54 rfl hl (by decide) rfl (fun ls hl => ?_)
        refine lv_iinc (v := nI (v2 + 1)) (lv' := [(3, .int (nI (v2 + 1))), (2, .int (nI ((fb_ct (fun v => cnS lg v 6 && told (wv kd fi se a v) true) v2) + 0))), (0, .ref (bd 0)), (1, .int (nI a))]) hx hb dX1_models_55 hl (k := 1) rfl (iinc1 _) (by decide) rfl (fun ls hl => ?_)
        refine lv_goto (tgt := 23) hx hb dX1_models_58 (by decide) ?_
        exact ih_v2 (v2 + 1) (by omega) rs_v2 H locs ls hP hD hS (by have h9 := lv_sub hl [0, 1, 2, 3] rfl; rw [show fb_ct (fun v => cnS lg v 6 && told (wv kd fi se a v) true) (v2 + 1) = fb_ct (fun v => cnS lg v 6 && told (wv kd fi se a v) true) v2 + 0 from by rw [fb_ct_succ, if_neg (fun q => Bool.noConfusion ((show (fun v => cnS lg v 6 && told (wv kd fi se a v) true) v2 = false from by show (cnS lg v2 6 && _) = false; rw [e_36]; rfl).symm.trans q))]]; exact h9)
      · have e_36 := bI_1 c_4
        refine lv_aload_n hx hb dX1_models_39 rfl (lv_at hl 2 rfl) ?_
        refine lv_iload_n hx hb dX1_models_40 rfl (lv_at hl 3 rfl) ?_
        refine lv_iload_n hx hb dX1_models_41 rfl (lv_at hl 0 rfl) ?_
        refine muI_V (own := RX1) (As := [.int (nI a), .int (nI v2)]) (rest := [.int (nI (fb_ct (fun v => cnS lg v 6 && told (wv kd fi se a v) true) v2))]) (C := RX1) (ci := 1) (q0 := 0) (A1 := A) ⟨hx, hb, hml, hown, hts⟩ (c_X1_isYes l D bd cI cZ cJ (nI 0) n kd fi se sd tr on sy lt ru lg rs_v2 hM a v2 (by omega) (by omega)) gX1_models_X1_isYes rfl ⟨rfl, rfl⟩ 2 rfl (by decide +kernel) ⟨Nat.le_of_ble_eq_true rfl, Nat.le_of_ble_eq_true rfl⟩ hP hK hD (fun _ h9 => h9) rfl rfl rfl hS hl.1 rfl (Nat.le_of_ble_eq_true rfl) dX1_models_42 ⟨Nat.zero_le _, Nat.zero_le _⟩ (fun u5 H locs hP hz1 hk1 hS => ?_)
        replace hP : va_P D vwCl (wM bd cI cZ cJ (nI 0) n kd fi se sd tr on sy lt ru lg u5) H := hP
        replace hD : va_D A (wM bd cI cZ cJ (nI 0) n kd fi se sd tr on sy lt ru lg u5) := sameD2 hD rfl
        refine lv_if_eq (tgt := 52) hx hb dX1_models_45 (by decide) (fun c_6 => ?_) (fun c_6 => ?_)
        · have e_45 := bI_0 c_6
          refine lv_iconst (v := nI 0) hx hb dX1_models_52 (by decide) ?_
          refine lv_iadd hx hb dX1_models_53 ?_
          refine tc_int (y := nI ((fb_ct (fun v => cnS lg v 6 && told (wv kd fi se a v) true) v2) + 0)) (nI_add _ _) ?_
          refine lv_istore_n (lv' := [(2, .int (nI ((fb_ct (fun v => cnS lg v 6 && told (wv kd fi se a v) true) v2) + 0))), (3, .int (nI v2)), (0, .ref (bd 0)), (1, .int (nI a))]) hx hb dX1_models_54 rfl hl (by decide) rfl (fun ls hl => ?_)
          refine lv_iinc (v := nI (v2 + 1)) (lv' := [(3, .int (nI (v2 + 1))), (2, .int (nI ((fb_ct (fun v => cnS lg v 6 && told (wv kd fi se a v) true) v2) + 0))), (0, .ref (bd 0)), (1, .int (nI a))]) hx hb dX1_models_55 hl (k := 1) rfl (iinc1 _) (by decide) rfl (fun ls hl => ?_)
          refine lv_goto (tgt := 23) hx hb dX1_models_58 (by decide) ?_
          exact ih_v2 (v2 + 1) (by omega) u5 H locs ls hP hD hS (by have h9 := lv_sub hl [0, 1, 2, 3] rfl; rw [show fb_ct (fun v => cnS lg v 6 && told (wv kd fi se a v) true) (v2 + 1) = fb_ct (fun v => cnS lg v 6 && told (wv kd fi se a v) true) v2 + 0 from by rw [fb_ct_succ, if_neg (fun q => Bool.noConfusion ((show (fun v => cnS lg v 6 && told (wv kd fi se a v) true) v2 = false from by show (cnS lg v2 6 && told (wv kd fi se a v2) true) = false; rw [e_36, e_45]; rfl).symm.trans q))]]; exact h9)
        · have e_45 := bI_1 c_6
          refine lv_iconst (v := nI 1) hx hb dX1_models_48 (by decide) ?_
          refine lv_goto (tgt := 53) hx hb dX1_models_49 (by decide) ?_
          refine lv_iadd hx hb dX1_models_53 ?_
          refine tc_int (y := nI ((fb_ct (fun v => cnS lg v 6 && told (wv kd fi se a v) true) v2) + 1)) (nI_add _ _) ?_
          refine lv_istore_n (lv' := [(2, .int (nI ((fb_ct (fun v => cnS lg v 6 && told (wv kd fi se a v) true) v2) + 1))), (3, .int (nI v2)), (0, .ref (bd 0)), (1, .int (nI a))]) hx hb dX1_models_54 rfl hl (by decide) rfl (fun ls hl => ?_)
          refine lv_iinc (v := nI (v2 + 1)) (lv' := [(3, .int (nI (v2 + 1))), (2, .int (nI ((fb_ct (fun v => cnS lg v 6 && told (wv kd fi se a v) true) v2) + 1))), (0, .ref (bd 0)), (1, .int (nI a))]) hx hb dX1_models_55 hl (k := 1) rfl (iinc1 _) (by decide) rfl (fun ls hl => ?_)
          refine lv_goto (tgt := 23) hx hb dX1_models_58 (by decide) ?_
          exact ih_v2 (v2 + 1) (by omega) u5 H locs ls hP hD hS (by have h9 := lv_sub hl [0, 1, 2, 3] rfl; rw [show fb_ct (fun v => cnS lg v 6 && told (wv kd fi se a v) true) (v2 + 1) = fb_ct (fun v => cnS lg v 6 && told (wv kd fi se a v) true) v2 + 1 from by rw [fb_ct_succ, if_pos (by show (cnS lg v2 6 && told (wv kd fi se a v2) true) = true; rw [e_36, e_45]; rfl)]]; exact h9)
  exact key1 (4096) 0 (by omega) rs _ _ ls hP hD hS (lv_sub hl [0, 1, 2, 3] rfl)

set_option maxHeartbeats 4000000 in
set_option maxRecDepth 100000 in
theorem d_X1_models (hM : OKM n kd fi se tr sy lt lg ru) (x : Int32) (hx9 : x < 0 ∨ nI n ≤ x) : MuI l yX1_models wsX1_models rm_X1_models D vwCl (wM bd cI cZ cJ th n kd fi se sd tr on sy lt ru lg rs) (fun u => wM bd cI cZ cJ (nI 1) n kd fi se sd tr on sy lt ru lg u) (tyC cI cZ cJ) [.ref (bd 0), .int x] (nI 0) := by
  refine MuI.of (cc := cX1_models) (maxL := 4) (by decide) rfl (Nat.le_of_ble_eq_true rfl) (vp_nar_int _) ?_
  intro A p e s m args below meth c Q ls hx hb hml hown hts hP hK hD kret hl
  have hown : s.vm.findClass RX1 = some m.cls := hown
  have hl : lv_has ls 4 [(0, .ref (bd 0)), (1, .int x)] := hl
  have hS : va_S A s.heap s.heap [] := va_S.rf
  have hin0 : ∀ w ∈ u_ws RX1 TX1 13, w ∈ wsX1_models := hin_X1_models
  refine lv_aload_n hx hb dX1_models_0 rfl (lv_at hl 0 rfl) ?_
  refine lv_iconst (v := nI 0) hx hb dX1_models_1 (by decide) ?_
  refine va_put (D := D) (ci := 1) (v := .int (nI 0)) (ty := .int) (C := RX1) (T := TX1) (N := 13) hx hb hts hin0 tyX1 tyX1_ok nmX1 hown hK hP hD hS 0 rfl rfl 0 (by decide) (hts (.fieldLink RX1 45 "RumourReasonerModel" "thrown" "I") (by decide +kernel)) (fun _ h9 => h9) rfl (by decide +kernel) rfl rfl (Nat.le_of_ble_eq_true rfl) dX1_models_2 (fun H locs hP hD hS => ?_)
  have hP : va_P D vwCl (wM bd cI cZ cJ (nI 0) n kd fi se sd tr on sy lt ru lg rs) H := hP
  have hD : va_D A (wM bd cI cZ cJ (nI 0) n kd fi se sd tr on sy lt ru lg rs) := hD
  refine lv_aload_n hx hb dX1_models_5 rfl (lv_at hl 0 rfl) ?_
  refine lv_iload_n hx hb dX1_models_6 rfl (lv_at hl 1 rfl) ?_
  refine puI_V (own := RX1) (As := [.int x]) (rest := []) (C := RX1) (ci := 1) (q0 := 0) ⟨hx, hb, hml, hown, hts⟩ (c_X1_isFormula l D bd cI cZ cJ (nI 0) n kd fi se sd tr on sy lt ru lg rs x) gX1_models_X1_isFormula rfl ⟨rfl, rfl⟩ 1 rfl (by decide +kernel) ⟨Nat.le_of_ble_eq_true rfl, Nat.le_of_ble_eq_true rfl⟩ hP hK rfl rfl rfl hS hl.1 rfl (Nat.le_of_ble_eq_true rfl) dX1_models_7 ⟨Nat.zero_le _, Nat.zero_le _⟩ (fun H locs hk1 hS => ?_)
  replace hP := keptP hP hk1
  refine tc_int (y := bI false) (by rw [isF_f hx9 hM.1]) ?_
  refine zF_ne (tgt := 19) hx hb dX1_models_10 (by decide) (rfl) ?_
  refine lv_aload_n hx hb dX1_models_13 rfl (lv_at hl 0 rfl) ?_
  refine lv_iconst (v := nI 1) hx hb dX1_models_14 (by decide) ?_
  refine muI_V (own := RX1) (As := [.int (nI 1)]) (rest := []) (C := RX1) (ci := 1) (q0 := 0) (A1 := A) ⟨hx, hb, hml, hown, hts⟩ (c_X1_no l D bd cI cZ cJ (nI 0) n kd fi se sd tr on sy lt ru lg rs 1) gX1_models_X1_no rfl ⟨rfl, rfl⟩ 1 rfl (by decide +kernel) ⟨Nat.le_of_ble_eq_true rfl, Nat.le_of_ble_eq_true rfl⟩ hP hK hD (fun _ h9 => h9) rfl rfl rfl hS hl.1 rfl (Nat.le_of_ble_eq_true rfl) dX1_models_15 ⟨Nat.zero_le _, Nat.zero_le _⟩ (fun u1 H locs hP hz1 hk1 hS => ?_)
  replace hP : va_P D vwCl (wM bd cI cZ cJ (nI 1) n kd fi se sd tr on sy lt ru lg u1) H := hP
  replace hD : va_D A (wM bd cI cZ cJ (nI 1) n kd fi se sd tr on sy lt ru lg u1) := sameD2 hD rfl
  exact kret _ u1 _ _ _ _ (rfl) hP hS dX1_models_18

theorem hin_X1_range : ∀ w ∈ wsX10, w ∈ wsX1_range := by first | exact fun _ h => List.mem_cons_of_mem _ (List.mem_append_right _ h) | exact fun _ h => List.mem_cons_of_mem _ (List.mem_append_left _ (List.mem_append_right _ h)) | exact fun _ h => List.mem_cons_of_mem _ (List.mem_append_left _ (List.mem_append_left _ (List.mem_append_right _ h))) | exact fun _ h => List.mem_cons_of_mem _ (List.mem_append_left _ (List.mem_append_left _ (List.mem_append_left _ (List.mem_append_right _ h)))) | decide +kernel
def rm_X1_range : Room := { frames := 2, cells := 0, slots := 0, locals := 47 }
set_option maxHeartbeats 4000000 in
set_option maxRecDepth 100000 in
theorem c_X1_range (hM : OKM n kd fi se tr sy lt lg ru) (a : Nat) (ha : a < n) : MuI l yX1_range wsX1_range rm_X1_range D vwCl (wM bd cI cZ cJ th n kd fi se sd tr on sy lt ru lg rs) (fun u => wM bd cI cZ cJ (nI 0) n kd fi se sd tr on sy lt ru lg u) (tyC cI cZ cJ) [.ref (bd 0), .int (nI a)] (nI (rgM (fun v => cnS lg v 6) (fun v => wv kd fi se a v) 4096)) := by
  refine MuI.of (cc := cX1_range) (maxL := 4) (by decide) rfl (Nat.le_of_ble_eq_true rfl) (vp_nar_int _) ?_
  intro A p e s m args below meth c Q ls hx hb hml hown hts hP hK hD kret hl
  have hown : s.vm.findClass RX1 = some m.cls := hown
  have hl : lv_has ls 4 [(0, .ref (bd 0)), (1, .int (nI a))] := hl
  have hS : va_S A s.heap s.heap [] := va_S.rf
  have hin0 : ∀ w ∈ u_ws RX1 TX1 13, w ∈ wsX1_range := hin_X1_range
  refine lv_aload_n hx hb dX1_range_0 rfl (lv_at hl 0 rfl) ?_
  refine lv_iconst (v := nI 0) hx hb dX1_range_1 (by decide) ?_
  refine va_put (D := D) (ci := 1) (v := .int (nI 0)) (ty := .int) (C := RX1) (T := TX1) (N := 13) hx hb hts hin0 tyX1 tyX1_ok nmX1 hown hK hP hD hS 0 rfl rfl 0 (by decide) (hts (.fieldLink RX1 45 "RumourReasonerModel" "thrown" "I") (by decide +kernel)) (fun _ h9 => h9) rfl (by decide +kernel) rfl rfl (Nat.le_of_ble_eq_true rfl) dX1_range_2 (fun H locs hP hD hS => ?_)
  have hP : va_P D vwCl (wM bd cI cZ cJ (nI 0) n kd fi se sd tr on sy lt ru lg rs) H := hP
  have hD : va_D A (wM bd cI cZ cJ (nI 0) n kd fi se sd tr on sy lt ru lg rs) := hD
  refine lv_aload_n hx hb dX1_range_5 rfl (lv_at hl 0 rfl) ?_
  refine lv_iload_n hx hb dX1_range_6 rfl (lv_at hl 1 rfl) ?_
  refine puI_V (own := RX1) (As := [.int (nI a)]) (rest := []) (C := RX1) (ci := 1) (q0 := 0) ⟨hx, hb, hml, hown, hts⟩ (c_X1_isFormula l D bd cI cZ cJ (nI 0) n kd fi se sd tr on sy lt ru lg rs (nI a)) gX1_range_X1_isFormula rfl ⟨rfl, rfl⟩ 1 rfl (by decide +kernel) ⟨Nat.le_of_ble_eq_true rfl, Nat.le_of_ble_eq_true rfl⟩ hP hK rfl rfl rfl hS hl.1 rfl (Nat.le_of_ble_eq_true rfl) dX1_range_7 ⟨Nat.zero_le _, Nat.zero_le _⟩ (fun H locs hk1 hS => ?_)
  replace hP := keptP hP hk1
  refine tc_int (y := bI true) (by rw [isF_t ha hM.1]) ?_
  refine zT_ne (tgt := 19) hx hb dX1_range_10 (by decide) (by decide) ?_
  refine lv_iconst (v := nI 0) hx hb dX1_range_19 (by decide) ?_
  refine lv_istore_n (lv' := [(2, .int (nI 0)), (0, .ref (bd 0)), (1, .int (nI a))]) hx hb dX1_range_20 rfl hl (by decide) rfl (fun ls hl => ?_)
  refine lv_iconst (v := nI 0) hx hb dX1_range_21 (by decide) ?_
  refine lv_istore_n (lv' := [(3, .int (nI 0)), (2, .int (nI 0)), (0, .ref (bd 0)), (1, .int (nI a))]) hx hb dX1_range_22 rfl hl (by decide) rfl (fun ls hl => ?_)
  have key1 : ∀ (d3 v2 : Nat), v2 + d3 = 4096 → ∀ (rs_v2 : Nat → Int32), ∀ (H : Heap) (locs : List Loc) (ls : Array Slot), va_P D vwCl (wM bd cI cZ cJ (nI 0) n kd fi se sd tr on sy lt ru lg rs_v2) H → va_D A (wM bd cI cZ cJ (nI 0) n kd fi se sd tr on sy lt ru lg rs_v2) → va_S A s.heap H locs → lv_has ls 4 [(3, .int (nI v2)), (2, .int (nI (rgM (fun v => cnS lg v 6) (fun v => wv kd fi se a v) v2))), (0, .ref (bd 0)), (1, .int (nI a))] → W p l e rm_X1_range s m args below meth c H locs 0 0 Q (F0 m 23 ls []) := by
    intro d3
    induction d3 with
    | zero =>
      intro v2 hi_v2 rs_v2 H locs ls hP hD hS hl
      obtain rfl : v2 = 4096 := by omega
      refine lv_iload_n hx hb dX1_range_23 rfl (lv_at hl 0 rfl) ?_
      refine lv_sipush (v := nI 4096) hx hb dX1_range_24 (by decide) ?_
      refine cT_ge (tgt := 55) hx hb dX1_range_27 (by decide) (nI_le (by omega) (by omega)) ?_
      refine lv_iload_n hx hb dX1_range_55 rfl (lv_at hl 1 rfl) ?_
      exact kret _ rs_v2 _ _ _ _ (rfl) hP hS dX1_range_56
    | succ d3 ih_v2 =>
      intro v2 hi_v2 rs_v2 H locs ls hP hD hS hl
      refine lv_iload_n hx hb dX1_range_23 rfl (lv_at hl 0 rfl) ?_
      refine lv_sipush (v := nI 4096) hx hb dX1_range_24 (by decide) ?_
      refine cF_ge (tgt := 55) hx hb dX1_range_27 (by decide) (nI_ge (by omega) (by omega)) ?_
      refine lv_aload_n hx hb dX1_range_30 rfl (lv_at hl 2 rfl) ?_
      refine lv_iload_n hx hb dX1_range_31 rfl (lv_at hl 0 rfl) ?_
      refine puI_V (own := RX1) (As := [.int (nI v2)]) (rest := []) (C := RX1) (ci := 1) (q0 := 0) ⟨hx, hb, hml, hown, hts⟩ (c_X1_counts l D bd cI cZ cJ (nI 0) n kd fi se sd tr on sy lt ru lg rs_v2 hM v2 (by omega)) gX1_range_X1_counts rfl ⟨rfl, rfl⟩ 1 rfl (by decide +kernel) ⟨Nat.le_of_ble_eq_true rfl, Nat.le_of_ble_eq_true rfl⟩ hP hK rfl rfl rfl hS hl.1 rfl (Nat.le_of_ble_eq_true rfl) dX1_range_32 ⟨Nat.zero_le _, Nat.zero_le _⟩ (fun H locs hk1 hS => ?_)
      replace hP := keptP hP hk1
      refine lv_if_eq (tgt := 49) hx hb dX1_range_35 (by decide) (fun c_4 => ?_) (fun c_4 => ?_)
      · have e_35 := bI_0 c_4
        refine lv_iinc (v := nI (v2 + 1)) (lv' := [(3, .int (nI (v2 + 1))), (2, .int (nI (rgM (fun v => cnS lg v 6) (fun v => wv kd fi se a v) v2))), (0, .ref (bd 0)), (1, .int (nI a))]) hx hb dX1_range_49 hl (k := 0) rfl (iinc1 _) (by decide) rfl (fun ls hl => ?_)
        refine lv_goto (tgt := 23) hx hb dX1_range_52 (by decide) ?_
        exact ih_v2 (v2 + 1) (by omega) rs_v2 H locs ls hP hD hS (by have h9 := lv_sub hl [0, 1, 2, 3] rfl; rw [show rgM (fun v => cnS lg v 6) (fun v => wv kd fi se a v) (v2 + 1) = rgM (fun v => cnS lg v 6) (fun v => wv kd fi se a v) v2 from if_neg (fun q => Bool.noConfusion (e_35.symm.trans q))]; exact h9)
      · have e_35 := bI_1 c_4
        refine lv_iload_n hx hb dX1_range_38 rfl (lv_at hl 1 rfl) ?_
        refine lv_iconst (v := nI 1) hx hb dX1_range_39 (by decide) ?_
        refine lv_aload_n hx hb dX1_range_40 rfl (lv_at hl 2 rfl) ?_
        refine lv_iload_n hx hb dX1_range_41 rfl (lv_at hl 3 rfl) ?_
        refine lv_iload_n hx hb dX1_range_42 rfl (lv_at hl 0 rfl) ?_
        refine muI_V (own := RX1) (As := [.int (nI a), .int (nI v2)]) (rest := [.int (nI 1), .int (nI (rgM (fun v => cnS lg v 6) (fun v => wv kd fi se a v) v2))]) (C := RX1) (ci := 1) (q0 := 0) (A1 := A) ⟨hx, hb, hml, hown, hts⟩ (c_X1_worth l D bd cI cZ cJ (nI 0) n kd fi se sd tr on sy lt ru lg rs_v2 hM a v2 (by omega) (by omega)) gX1_range_X1_worth rfl ⟨rfl, rfl⟩ 2 rfl (by decide +kernel) ⟨Nat.le_of_ble_eq_true rfl, Nat.le_of_ble_eq_true rfl⟩ hP hK hD (fun _ h9 => h9) rfl rfl rfl hS hl.1 rfl (Nat.le_of_ble_eq_true rfl) dX1_range_43 ⟨Nat.zero_le _, Nat.zero_le _⟩ (fun u5 H locs hP hz1 hk1 hS => ?_)
        replace hP : va_P D vwCl (wM bd cI cZ cJ (nI 0) n kd fi se sd tr on sy lt ru lg u5) H := hP
        replace hD : va_D A (wM bd cI cZ cJ (nI 0) n kd fi se sd tr on sy lt ru lg u5) := sameD2 hD rfl
        refine lv_ishl hx hb dX1_range_46 ?_
        refine tc_int (y := nI (2 ^ wv kd fi se a v2)) (shl1 (Nat.lt_trans (wv_lt hM.2.2.2.2.2.2 _ _ ha) (by decide))) ?_
        refine lv_ior hx hb dX1_range_47 ?_
        refine tc_int (y := nI (rgM (fun v => cnS lg v 6) (fun v => wv kd fi se a v) v2 ||| 2 ^ wv kd fi se a v2)) (fa_or _ _) ?_
        refine lv_istore_n (lv' := [(2, .int (nI (rgM (fun v => cnS lg v 6) (fun v => wv kd fi se a v) v2 ||| 2 ^ wv kd fi se a v2))), (3, .int (nI v2)), (0, .ref (bd 0)), (1, .int (nI a))]) hx hb dX1_range_48 rfl hl (by decide) rfl (fun ls hl => ?_)
        refine lv_iinc (v := nI (v2 + 1)) (lv' := [(3, .int (nI (v2 + 1))), (2, .int (nI (rgM (fun v => cnS lg v 6) (fun v => wv kd fi se a v) v2 ||| 2 ^ wv kd fi se a v2))), (0, .ref (bd 0)), (1, .int (nI a))]) hx hb dX1_range_49 hl (k := 1) rfl (iinc1 _) (by decide) rfl (fun ls hl => ?_)
        refine lv_goto (tgt := 23) hx hb dX1_range_52 (by decide) ?_
        exact ih_v2 (v2 + 1) (by omega) u5 H locs ls hP hD hS (by have h9 := lv_sub hl [0, 1, 2, 3] rfl; rw [show rgM (fun v => cnS lg v 6) (fun v => wv kd fi se a v) (v2 + 1) = rgM (fun v => cnS lg v 6) (fun v => wv kd fi se a v) v2 ||| 2 ^ wv kd fi se a v2 from if_pos e_35]; exact h9)
  exact key1 (4096) 0 (by omega) rs _ _ ls hP hD hS (lv_sub hl [0, 1, 2, 3] rfl)

set_option maxHeartbeats 4000000 in
set_option maxRecDepth 100000 in
theorem d_X1_range (hM : OKM n kd fi se tr sy lt lg ru) (x : Int32) (hx9 : x < 0 ∨ nI n ≤ x) : MuI l yX1_range wsX1_range rm_X1_range D vwCl (wM bd cI cZ cJ th n kd fi se sd tr on sy lt ru lg rs) (fun u => wM bd cI cZ cJ (nI 1) n kd fi se sd tr on sy lt ru lg u) (tyC cI cZ cJ) [.ref (bd 0), .int x] (nI 0) := by
  refine MuI.of (cc := cX1_range) (maxL := 4) (by decide) rfl (Nat.le_of_ble_eq_true rfl) (vp_nar_int _) ?_
  intro A p e s m args below meth c Q ls hx hb hml hown hts hP hK hD kret hl
  have hown : s.vm.findClass RX1 = some m.cls := hown
  have hl : lv_has ls 4 [(0, .ref (bd 0)), (1, .int x)] := hl
  have hS : va_S A s.heap s.heap [] := va_S.rf
  have hin0 : ∀ w ∈ u_ws RX1 TX1 13, w ∈ wsX1_range := hin_X1_range
  refine lv_aload_n hx hb dX1_range_0 rfl (lv_at hl 0 rfl) ?_
  refine lv_iconst (v := nI 0) hx hb dX1_range_1 (by decide) ?_
  refine va_put (D := D) (ci := 1) (v := .int (nI 0)) (ty := .int) (C := RX1) (T := TX1) (N := 13) hx hb hts hin0 tyX1 tyX1_ok nmX1 hown hK hP hD hS 0 rfl rfl 0 (by decide) (hts (.fieldLink RX1 45 "RumourReasonerModel" "thrown" "I") (by decide +kernel)) (fun _ h9 => h9) rfl (by decide +kernel) rfl rfl (Nat.le_of_ble_eq_true rfl) dX1_range_2 (fun H locs hP hD hS => ?_)
  have hP : va_P D vwCl (wM bd cI cZ cJ (nI 0) n kd fi se sd tr on sy lt ru lg rs) H := hP
  have hD : va_D A (wM bd cI cZ cJ (nI 0) n kd fi se sd tr on sy lt ru lg rs) := hD
  refine lv_aload_n hx hb dX1_range_5 rfl (lv_at hl 0 rfl) ?_
  refine lv_iload_n hx hb dX1_range_6 rfl (lv_at hl 1 rfl) ?_
  refine puI_V (own := RX1) (As := [.int x]) (rest := []) (C := RX1) (ci := 1) (q0 := 0) ⟨hx, hb, hml, hown, hts⟩ (c_X1_isFormula l D bd cI cZ cJ (nI 0) n kd fi se sd tr on sy lt ru lg rs x) gX1_range_X1_isFormula rfl ⟨rfl, rfl⟩ 1 rfl (by decide +kernel) ⟨Nat.le_of_ble_eq_true rfl, Nat.le_of_ble_eq_true rfl⟩ hP hK rfl rfl rfl hS hl.1 rfl (Nat.le_of_ble_eq_true rfl) dX1_range_7 ⟨Nat.zero_le _, Nat.zero_le _⟩ (fun H locs hk1 hS => ?_)
  replace hP := keptP hP hk1
  refine tc_int (y := bI false) (by rw [isF_f hx9 hM.1]) ?_
  refine zF_ne (tgt := 19) hx hb dX1_range_10 (by decide) (rfl) ?_
  refine lv_aload_n hx hb dX1_range_13 rfl (lv_at hl 0 rfl) ?_
  refine lv_iconst (v := nI 1) hx hb dX1_range_14 (by decide) ?_
  refine muI_V (own := RX1) (As := [.int (nI 1)]) (rest := []) (C := RX1) (ci := 1) (q0 := 0) (A1 := A) ⟨hx, hb, hml, hown, hts⟩ (c_X1_no l D bd cI cZ cJ (nI 0) n kd fi se sd tr on sy lt ru lg rs 1) gX1_range_X1_no rfl ⟨rfl, rfl⟩ 1 rfl (by decide +kernel) ⟨Nat.le_of_ble_eq_true rfl, Nat.le_of_ble_eq_true rfl⟩ hP hK hD (fun _ h9 => h9) rfl rfl rfl hS hl.1 rfl (Nat.le_of_ble_eq_true rfl) dX1_range_15 ⟨Nat.zero_le _, Nat.zero_le _⟩ (fun u1 H locs hP hz1 hk1 hS => ?_)
  replace hP : va_P D vwCl (wM bd cI cZ cJ (nI 1) n kd fi se sd tr on sy lt ru lg u1) H := hP
  replace hD : va_D A (wM bd cI cZ cJ (nI 1) n kd fi se sd tr on sy lt ru lg u1) := sameD2 hD rfl
  exact kret _ u1 _ _ _ _ (rfl) hP hS dX1_range_18

theorem hin_X1_against : ∀ w ∈ wsX10, w ∈ wsX1_against := by first | exact fun _ h => List.mem_cons_of_mem _ (List.mem_append_right _ h) | exact fun _ h => List.mem_cons_of_mem _ (List.mem_append_left _ (List.mem_append_right _ h)) | exact fun _ h => List.mem_cons_of_mem _ (List.mem_append_left _ (List.mem_append_left _ (List.mem_append_right _ h))) | exact fun _ h => List.mem_cons_of_mem _ (List.mem_append_left _ (List.mem_append_left _ (List.mem_append_left _ (List.mem_append_right _ h)))) | decide +kernel
def rm_X1_against : Room := { frames := 4, cells := 0, slots := 0, locals := 92 }
set_option maxHeartbeats 4000000 in
set_option maxRecDepth 100000 in
theorem c_X1_against (hM : OKM n kd fi se tr sy lt lg ru) (a b : Nat) (ha : a < n) (hb9 : b < n) : MuI l yX1_against wsX1_against rm_X1_against D vwCl (wM bd cI cZ cJ th n kd fi se sd tr on sy lt ru lg rs) (fun u => wM bd cI cZ cJ (nI 0) n kd fi se sd tr on sy lt ru lg u) (tyC cI cZ cJ) [.ref (bd 0), .int (nI a), .int (nI b)] (rI (ffO (fun v => cnS lg v 6 && (told (wv kd fi se a v) true && !told (wv kd fi se b v) true)) 4096)) := by
  refine MuI.of (cc := cX1_against) (maxL := 3) (by decide) rfl (Nat.le_of_ble_eq_true rfl) (vp_nar_int _) ?_
  intro A p e s m args below meth c Q ls hx hb hml hown hts hP hK hD kret hl
  have hown : s.vm.findClass RX1 = some m.cls := hown
  have hl : lv_has ls 3 [(0, .ref (bd 0)), (1, .int (nI a)), (2, .int (nI b))] := hl
  have hS : va_S A s.heap s.heap [] := va_S.rf
  have hin0 : ∀ w ∈ u_ws RX1 TX1 13, w ∈ wsX1_against := hin_X1_against
  refine lv_aload_n hx hb dX1_against_0 rfl (lv_at hl 0 rfl) ?_
  refine lv_iconst (v := nI 0) hx hb dX1_against_1 (by decide) ?_
  refine va_put (D := D) (ci := 1) (v := .int (nI 0)) (ty := .int) (C := RX1) (T := TX1) (N := 13) hx hb hts hin0 tyX1 tyX1_ok nmX1 hown hK hP hD hS 0 rfl rfl 0 (by decide) (hts (.fieldLink RX1 45 "RumourReasonerModel" "thrown" "I") (by decide +kernel)) (fun _ h9 => h9) rfl (by decide +kernel) rfl rfl (Nat.le_of_ble_eq_true rfl) dX1_against_2 (fun H locs hP hD hS => ?_)
  have hP : va_P D vwCl (wM bd cI cZ cJ (nI 0) n kd fi se sd tr on sy lt ru lg rs) H := hP
  have hD : va_D A (wM bd cI cZ cJ (nI 0) n kd fi se sd tr on sy lt ru lg rs) := hD
  refine lv_aload_n hx hb dX1_against_5 rfl (lv_at hl 0 rfl) ?_
  refine lv_iload_n hx hb dX1_against_6 rfl (lv_at hl 1 rfl) ?_
  refine puI_V (own := RX1) (As := [.int (nI a)]) (rest := []) (C := RX1) (ci := 1) (q0 := 0) ⟨hx, hb, hml, hown, hts⟩ (c_X1_isFormula l D bd cI cZ cJ (nI 0) n kd fi se sd tr on sy lt ru lg rs (nI a)) gX1_against_X1_isFormula rfl ⟨rfl, rfl⟩ 1 rfl (by decide +kernel) ⟨Nat.le_of_ble_eq_true rfl, Nat.le_of_ble_eq_true rfl⟩ hP hK rfl rfl rfl hS hl.1 rfl (Nat.le_of_ble_eq_true rfl) dX1_against_7 ⟨Nat.zero_le _, Nat.zero_le _⟩ (fun H locs hk1 hS => ?_)
  replace hP := keptP hP hk1
  refine tc_int (y := bI true) (by rw [isF_t ha hM.1]) ?_
  refine zF_eq (tgt := 30) hx hb dX1_against_10 (by decide) (by decide) ?_
  refine lv_aload_n hx hb dX1_against_13 rfl (lv_at hl 0 rfl) ?_
  refine lv_iload_n hx hb dX1_against_14 rfl (lv_at hl 2 rfl) ?_
  refine puI_V (own := RX1) (As := [.int (nI b)]) (rest := []) (C := RX1) (ci := 1) (q0 := 0) ⟨hx, hb, hml, hown, hts⟩ (c_X1_isFormula l D bd cI cZ cJ (nI 0) n kd fi se sd tr on sy lt ru lg rs (nI b)) gX1_against_X1_isFormula rfl ⟨rfl, rfl⟩ 1 rfl (by decide +kernel) ⟨Nat.le_of_ble_eq_true rfl, Nat.le_of_ble_eq_true rfl⟩ hP hK rfl rfl rfl hS hl.1 rfl (Nat.le_of_ble_eq_true rfl) dX1_against_15 ⟨Nat.zero_le _, Nat.zero_le _⟩ (fun H locs hk1 hS => ?_)
  replace hP := keptP hP hk1
  refine tc_int (y := bI true) (by rw [isF_t hb9 hM.1]) ?_
  refine zF_eq (tgt := 30) hx hb dX1_against_18 (by decide) (by decide) ?_
  refine lv_aload_n hx hb dX1_against_21 rfl (lv_at hl 0 rfl) ?_
  refine lv_iload_n hx hb dX1_against_22 rfl (lv_at hl 1 rfl) ?_
  refine lv_iload_n hx hb dX1_against_23 rfl (lv_at hl 2 rfl) ?_
  refine muI_V (own := RX1) (As := [.int (nI a), .int (nI b)]) (rest := []) (C := RX1) (ci := 1) (q0 := 0) (A1 := A) ⟨hx, hb, hml, hown, hts⟩ (c_X1_firstAgainst l D bd cI cZ cJ (nI 0) n kd fi se sd tr on sy lt ru lg rs hM a b (by omega) (by omega)) gX1_against_X1_firstAgainst rfl ⟨rfl, rfl⟩ 2 rfl (by decide +kernel) ⟨Nat.le_of_ble_eq_true rfl, Nat.le_of_ble_eq_true rfl⟩ hP hK hD (fun _ h9 => h9) rfl rfl rfl hS hl.1 rfl (Nat.le_of_ble_eq_true rfl) dX1_against_24 ⟨Nat.zero_le _, Nat.zero_le _⟩ (fun u1 H locs hP hz1 hk1 hS => ?_)
  replace hP : va_P D vwCl (wM bd cI cZ cJ (nI 0) n kd fi se sd tr on sy lt ru lg u1) H := hP
  replace hD : va_D A (wM bd cI cZ cJ (nI 0) n kd fi se sd tr on sy lt ru lg u1) := sameD2 hD rfl
  refine lv_goto (tgt := 35) hx hb dX1_against_27 (by decide) ?_
  exact kret _ u1 _ _ _ _ (rfl) hP hS dX1_against_35

set_option maxHeartbeats 4000000 in
set_option maxRecDepth 100000 in
theorem d_X1_against_1 (hM : OKM n kd fi se tr sy lt lg ru) (y : Int32) (x : Int32) (hx9 : x < 0 ∨ nI n ≤ x) : MuI l yX1_against wsX1_against rm_X1_against D vwCl (wM bd cI cZ cJ th n kd fi se sd tr on sy lt ru lg rs) (fun u => wM bd cI cZ cJ (nI 1) n kd fi se sd tr on sy lt ru lg u) (tyC cI cZ cJ) [.ref (bd 0), .int x, .int y] (nI 0) := by
  refine MuI.of (cc := cX1_against) (maxL := 3) (by decide) rfl (Nat.le_of_ble_eq_true rfl) (vp_nar_int _) ?_
  intro A p e s m args below meth c Q ls hx hb hml hown hts hP hK hD kret hl
  have hown : s.vm.findClass RX1 = some m.cls := hown
  have hl : lv_has ls 3 [(0, .ref (bd 0)), (1, .int x), (2, .int y)] := hl
  have hS : va_S A s.heap s.heap [] := va_S.rf
  have hin0 : ∀ w ∈ u_ws RX1 TX1 13, w ∈ wsX1_against := hin_X1_against
  refine lv_aload_n hx hb dX1_against_0 rfl (lv_at hl 0 rfl) ?_
  refine lv_iconst (v := nI 0) hx hb dX1_against_1 (by decide) ?_
  refine va_put (D := D) (ci := 1) (v := .int (nI 0)) (ty := .int) (C := RX1) (T := TX1) (N := 13) hx hb hts hin0 tyX1 tyX1_ok nmX1 hown hK hP hD hS 0 rfl rfl 0 (by decide) (hts (.fieldLink RX1 45 "RumourReasonerModel" "thrown" "I") (by decide +kernel)) (fun _ h9 => h9) rfl (by decide +kernel) rfl rfl (Nat.le_of_ble_eq_true rfl) dX1_against_2 (fun H locs hP hD hS => ?_)
  have hP : va_P D vwCl (wM bd cI cZ cJ (nI 0) n kd fi se sd tr on sy lt ru lg rs) H := hP
  have hD : va_D A (wM bd cI cZ cJ (nI 0) n kd fi se sd tr on sy lt ru lg rs) := hD
  refine lv_aload_n hx hb dX1_against_5 rfl (lv_at hl 0 rfl) ?_
  refine lv_iload_n hx hb dX1_against_6 rfl (lv_at hl 1 rfl) ?_
  refine puI_V (own := RX1) (As := [.int x]) (rest := []) (C := RX1) (ci := 1) (q0 := 0) ⟨hx, hb, hml, hown, hts⟩ (c_X1_isFormula l D bd cI cZ cJ (nI 0) n kd fi se sd tr on sy lt ru lg rs x) gX1_against_X1_isFormula rfl ⟨rfl, rfl⟩ 1 rfl (by decide +kernel) ⟨Nat.le_of_ble_eq_true rfl, Nat.le_of_ble_eq_true rfl⟩ hP hK rfl rfl rfl hS hl.1 rfl (Nat.le_of_ble_eq_true rfl) dX1_against_7 ⟨Nat.zero_le _, Nat.zero_le _⟩ (fun H locs hk1 hS => ?_)
  replace hP := keptP hP hk1
  refine tc_int (y := bI false) (by rw [isF_f hx9 hM.1]) ?_
  refine zT_eq (tgt := 30) hx hb dX1_against_10 (by decide) (rfl) ?_
  refine lv_aload_n hx hb dX1_against_30 rfl (lv_at hl 0 rfl) ?_
  refine lv_iconst (v := nI 1) hx hb dX1_against_31 (by decide) ?_
  refine muI_V (own := RX1) (As := [.int (nI 1)]) (rest := []) (C := RX1) (ci := 1) (q0 := 0) (A1 := A) ⟨hx, hb, hml, hown, hts⟩ (c_X1_no l D bd cI cZ cJ (nI 0) n kd fi se sd tr on sy lt ru lg rs 1) gX1_against_X1_no rfl ⟨rfl, rfl⟩ 1 rfl (by decide +kernel) ⟨Nat.le_of_ble_eq_true rfl, Nat.le_of_ble_eq_true rfl⟩ hP hK hD (fun _ h9 => h9) rfl rfl rfl hS hl.1 rfl (Nat.le_of_ble_eq_true rfl) dX1_against_32 ⟨Nat.zero_le _, Nat.zero_le _⟩ (fun u1 H locs hP hz1 hk1 hS => ?_)
  replace hP : va_P D vwCl (wM bd cI cZ cJ (nI 1) n kd fi se sd tr on sy lt ru lg u1) H := hP
  replace hD : va_D A (wM bd cI cZ cJ (nI 1) n kd fi se sd tr on sy lt ru lg u1) := sameD2 hD rfl
  exact kret _ u1 _ _ _ _ (rfl) hP hS dX1_against_35

set_option maxHeartbeats 4000000 in
set_option maxRecDepth 100000 in
theorem d_X1_against_2 (hM : OKM n kd fi se tr sy lt lg ru) (a : Nat) (ha : a < n) (x : Int32) (hx9 : x < 0 ∨ nI n ≤ x) : MuI l yX1_against wsX1_against rm_X1_against D vwCl (wM bd cI cZ cJ th n kd fi se sd tr on sy lt ru lg rs) (fun u => wM bd cI cZ cJ (nI 1) n kd fi se sd tr on sy lt ru lg u) (tyC cI cZ cJ) [.ref (bd 0), .int (nI a), .int x] (nI 0) := by
  refine MuI.of (cc := cX1_against) (maxL := 3) (by decide) rfl (Nat.le_of_ble_eq_true rfl) (vp_nar_int _) ?_
  intro A p e s m args below meth c Q ls hx hb hml hown hts hP hK hD kret hl
  have hown : s.vm.findClass RX1 = some m.cls := hown
  have hl : lv_has ls 3 [(0, .ref (bd 0)), (1, .int (nI a)), (2, .int x)] := hl
  have hS : va_S A s.heap s.heap [] := va_S.rf
  have hin0 : ∀ w ∈ u_ws RX1 TX1 13, w ∈ wsX1_against := hin_X1_against
  refine lv_aload_n hx hb dX1_against_0 rfl (lv_at hl 0 rfl) ?_
  refine lv_iconst (v := nI 0) hx hb dX1_against_1 (by decide) ?_
  refine va_put (D := D) (ci := 1) (v := .int (nI 0)) (ty := .int) (C := RX1) (T := TX1) (N := 13) hx hb hts hin0 tyX1 tyX1_ok nmX1 hown hK hP hD hS 0 rfl rfl 0 (by decide) (hts (.fieldLink RX1 45 "RumourReasonerModel" "thrown" "I") (by decide +kernel)) (fun _ h9 => h9) rfl (by decide +kernel) rfl rfl (Nat.le_of_ble_eq_true rfl) dX1_against_2 (fun H locs hP hD hS => ?_)
  have hP : va_P D vwCl (wM bd cI cZ cJ (nI 0) n kd fi se sd tr on sy lt ru lg rs) H := hP
  have hD : va_D A (wM bd cI cZ cJ (nI 0) n kd fi se sd tr on sy lt ru lg rs) := hD
  refine lv_aload_n hx hb dX1_against_5 rfl (lv_at hl 0 rfl) ?_
  refine lv_iload_n hx hb dX1_against_6 rfl (lv_at hl 1 rfl) ?_
  refine puI_V (own := RX1) (As := [.int (nI a)]) (rest := []) (C := RX1) (ci := 1) (q0 := 0) ⟨hx, hb, hml, hown, hts⟩ (c_X1_isFormula l D bd cI cZ cJ (nI 0) n kd fi se sd tr on sy lt ru lg rs (nI a)) gX1_against_X1_isFormula rfl ⟨rfl, rfl⟩ 1 rfl (by decide +kernel) ⟨Nat.le_of_ble_eq_true rfl, Nat.le_of_ble_eq_true rfl⟩ hP hK rfl rfl rfl hS hl.1 rfl (Nat.le_of_ble_eq_true rfl) dX1_against_7 ⟨Nat.zero_le _, Nat.zero_le _⟩ (fun H locs hk1 hS => ?_)
  replace hP := keptP hP hk1
  refine tc_int (y := bI true) (by rw [isF_t ha hM.1]) ?_
  refine zF_eq (tgt := 30) hx hb dX1_against_10 (by decide) (by decide) ?_
  refine lv_aload_n hx hb dX1_against_13 rfl (lv_at hl 0 rfl) ?_
  refine lv_iload_n hx hb dX1_against_14 rfl (lv_at hl 2 rfl) ?_
  refine puI_V (own := RX1) (As := [.int x]) (rest := []) (C := RX1) (ci := 1) (q0 := 0) ⟨hx, hb, hml, hown, hts⟩ (c_X1_isFormula l D bd cI cZ cJ (nI 0) n kd fi se sd tr on sy lt ru lg rs x) gX1_against_X1_isFormula rfl ⟨rfl, rfl⟩ 1 rfl (by decide +kernel) ⟨Nat.le_of_ble_eq_true rfl, Nat.le_of_ble_eq_true rfl⟩ hP hK rfl rfl rfl hS hl.1 rfl (Nat.le_of_ble_eq_true rfl) dX1_against_15 ⟨Nat.zero_le _, Nat.zero_le _⟩ (fun H locs hk1 hS => ?_)
  replace hP := keptP hP hk1
  refine tc_int (y := bI false) (by rw [isF_f hx9 hM.1]) ?_
  refine zT_eq (tgt := 30) hx hb dX1_against_18 (by decide) (rfl) ?_
  refine lv_aload_n hx hb dX1_against_30 rfl (lv_at hl 0 rfl) ?_
  refine lv_iconst (v := nI 1) hx hb dX1_against_31 (by decide) ?_
  refine muI_V (own := RX1) (As := [.int (nI 1)]) (rest := []) (C := RX1) (ci := 1) (q0 := 0) (A1 := A) ⟨hx, hb, hml, hown, hts⟩ (c_X1_no l D bd cI cZ cJ (nI 0) n kd fi se sd tr on sy lt ru lg rs 1) gX1_against_X1_no rfl ⟨rfl, rfl⟩ 1 rfl (by decide +kernel) ⟨Nat.le_of_ble_eq_true rfl, Nat.le_of_ble_eq_true rfl⟩ hP hK hD (fun _ h9 => h9) rfl rfl rfl hS hl.1 rfl (Nat.le_of_ble_eq_true rfl) dX1_against_32 ⟨Nat.zero_le _, Nat.zero_le _⟩ (fun u1 H locs hP hz1 hk1 hS => ?_)
  replace hP : va_P D vwCl (wM bd cI cZ cJ (nI 1) n kd fi se sd tr on sy lt ru lg u1) H := hP
  replace hD : va_D A (wM bd cI cZ cJ (nI 1) n kd fi se sd tr on sy lt ru lg u1) := sameD2 hD rfl
  exact kret _ u1 _ _ _ _ (rfl) hP hS dX1_against_35

theorem ffO_lt {p : Nat → Bool} {n f : Nat} (h : ffO p n = some f) : f < n := by
  unfold ffO at h
  split at h
  · cases h; assumption
  · cases h
theorem ffn {p : Nat → Bool} : rI (ffO p 4096) = -1 ↔ ffO p 4096 = none := rI_none (fun f hf => Nat.lt_trans (ffO_lt hf) (by decide))
theorem hin_X1_entails : ∀ w ∈ wsX10, w ∈ wsX1_entails := by first | exact fun _ h => List.mem_cons_of_mem _ (List.mem_append_right _ h) | exact fun _ h => List.mem_cons_of_mem _ (List.mem_append_left _ (List.mem_append_right _ h)) | exact fun _ h => List.mem_cons_of_mem _ (List.mem_append_left _ (List.mem_append_left _ (List.mem_append_right _ h))) | exact fun _ h => List.mem_cons_of_mem _ (List.mem_append_left _ (List.mem_append_left _ (List.mem_append_left _ (List.mem_append_right _ h)))) | decide +kernel
def rm_X1_entails : Room := { frames := 4, cells := 0, slots := 0, locals := 92 }
set_option maxHeartbeats 4000000 in
set_option maxRecDepth 100000 in
theorem c_X1_entails (hM : OKM n kd fi se tr sy lt lg ru) (a b : Nat) (ha : a < n) (hb9 : b < n) : MuI l yX1_entails wsX1_entails rm_X1_entails D vwCl (wM bd cI cZ cJ th n kd fi se sd tr on sy lt ru lg rs) (fun u => wM bd cI cZ cJ (nI 0) n kd fi se sd tr on sy lt ru lg u) (tyC cI cZ cJ) [.ref (bd 0), .int (nI a), .int (nI b)] (bI (ffO (fun v => cnS lg v 6 && (told (wv kd fi se a v) true && !told (wv kd fi se b v) true)) 4096).isNone) := by
  refine MuI.of (cc := cX1_entails) (maxL := 3) (by decide) rfl (Nat.le_of_ble_eq_true rfl) (bI_n _) ?_
  intro A p e s m args below meth c Q ls hx hb hml hown hts hP hK hD kret hl
  have hown : s.vm.findClass RX1 = some m.cls := hown
  have hl : lv_has ls 3 [(0, .ref (bd 0)), (1, .int (nI a)), (2, .int (nI b))] := hl
  have hS : va_S A s.heap s.heap [] := va_S.rf
  have hin0 : ∀ w ∈ u_ws RX1 TX1 13, w ∈ wsX1_entails := hin_X1_entails
  refine lv_aload_n hx hb dX1_entails_0 rfl (lv_at hl 0 rfl) ?_
  refine lv_aload_n hx hb dX1_entails_1 rfl (lv_at hl 0 rfl) ?_
  refine lv_iload_n hx hb dX1_entails_2 rfl (lv_at hl 1 rfl) ?_
  refine puI_V (own := RX1) (As := [.int (nI a)]) (rest := [.ref (bd 0)]) (C := RX1) (ci := 1) (q0 := 0) ⟨hx, hb, hml, hown, hts⟩ (c_X1_isFormula l D bd cI cZ cJ th n kd fi se sd tr on sy lt ru lg rs (nI a)) gX1_entails_X1_isFormula rfl ⟨rfl, rfl⟩ 1 rfl (by decide +kernel) ⟨Nat.le_of_ble_eq_true rfl, Nat.le_of_ble_eq_true rfl⟩ hP hK rfl rfl rfl hS hl.1 rfl (Nat.le_of_ble_eq_true rfl) dX1_entails_3 ⟨Nat.zero_le _, Nat.zero_le _⟩ (fun H locs hk1 hS => ?_)
  replace hP := keptP hP hk1
  refine tc_int (y := bI true) (by rw [isF_t ha hM.1]) ?_
  refine zF_eq (tgt := 21) hx hb dX1_entails_6 (by decide) (by decide) ?_
  refine lv_aload_n hx hb dX1_entails_9 rfl (lv_at hl 0 rfl) ?_
  refine lv_iload_n hx hb dX1_entails_10 rfl (lv_at hl 2 rfl) ?_
  refine puI_V (own := RX1) (As := [.int (nI b)]) (rest := [.ref (bd 0)]) (C := RX1) (ci := 1) (q0 := 0) ⟨hx, hb, hml, hown, hts⟩ (c_X1_isFormula l D bd cI cZ cJ th n kd fi se sd tr on sy lt ru lg rs (nI b)) gX1_entails_X1_isFormula rfl ⟨rfl, rfl⟩ 1 rfl (by decide +kernel) ⟨Nat.le_of_ble_eq_true rfl, Nat.le_of_ble_eq_true rfl⟩ hP hK rfl rfl rfl hS hl.1 rfl (Nat.le_of_ble_eq_true rfl) dX1_entails_11 ⟨Nat.zero_le _, Nat.zero_le _⟩ (fun H locs hk1 hS => ?_)
  replace hP := keptP hP hk1
  refine tc_int (y := bI true) (by rw [isF_t hb9 hM.1]) ?_
  refine zF_eq (tgt := 21) hx hb dX1_entails_14 (by decide) (by decide) ?_
  refine lv_iconst (v := nI 0) hx hb dX1_entails_17 (by decide) ?_
  refine lv_goto (tgt := 22) hx hb dX1_entails_18 (by decide) ?_
  refine va_put (D := D) (ci := 1) (v := .int (nI 0)) (ty := .int) (C := RX1) (T := TX1) (N := 13) hx hb hts hin0 tyX1 tyX1_ok nmX1 hown hK hP hD hS 0 rfl rfl 0 (by decide) (hts (.fieldLink RX1 45 "RumourReasonerModel" "thrown" "I") (by decide +kernel)) (fun _ h9 => h9) rfl (by decide +kernel) rfl rfl (Nat.le_of_ble_eq_true rfl) dX1_entails_22 (fun H locs hP hD hS => ?_)
  have hP : va_P D vwCl (wM bd cI cZ cJ (nI 0) n kd fi se sd tr on sy lt ru lg rs) H := hP
  have hD : va_D A (wM bd cI cZ cJ (nI 0) n kd fi se sd tr on sy lt ru lg rs) := hD
  refine lv_aload_n hx hb dX1_entails_25 rfl (lv_at hl 0 rfl) ?_
  refine va_get (D := D) (ci := 1) (v := .int (nI 0)) (C := RX1) (T := TX1) (N := 13) hx hb hts hin0 hown hK hP 0 rfl rfl 0 (by decide) (hts (.fieldLink RX1 45 "RumourReasonerModel" "thrown" "I") (by decide +kernel)) (fun _ h9 => h9) rfl dX1_entails_26 ?_
  refine zF_ne (tgt := 46) hx hb dX1_entails_29 (by decide) (rfl) ?_
  refine lv_aload_n hx hb dX1_entails_32 rfl (lv_at hl 0 rfl) ?_
  refine lv_iload_n hx hb dX1_entails_33 rfl (lv_at hl 1 rfl) ?_
  refine lv_iload_n hx hb dX1_entails_34 rfl (lv_at hl 2 rfl) ?_
  refine muI_V (own := RX1) (As := [.int (nI a), .int (nI b)]) (rest := []) (C := RX1) (ci := 1) (q0 := 0) (A1 := A) ⟨hx, hb, hml, hown, hts⟩ (c_X1_firstAgainst l D bd cI cZ cJ (nI 0) n kd fi se sd tr on sy lt ru lg rs hM a b (by omega) (by omega)) gX1_entails_X1_firstAgainst rfl ⟨rfl, rfl⟩ 2 rfl (by decide +kernel) ⟨Nat.le_of_ble_eq_true rfl, Nat.le_of_ble_eq_true rfl⟩ hP hK hD (fun _ h9 => h9) rfl rfl rfl hS hl.1 rfl (Nat.le_of_ble_eq_true rfl) dX1_entails_35 ⟨Nat.zero_le _, Nat.zero_le _⟩ (fun u1 H locs hP hz1 hk1 hS => ?_)
  replace hP : va_P D vwCl (wM bd cI cZ cJ (nI 0) n kd fi se sd tr on sy lt ru lg u1) H := hP
  replace hD : va_D A (wM bd cI cZ cJ (nI 0) n kd fi se sd tr on sy lt ru lg u1) := sameD2 hD rfl
  refine lv_iconst (v := (-1)) hx hb dX1_entails_38 (by decide) ?_
  refine lv_icmp_ne (tgt := 46) hx hb dX1_entails_39 (by decide) (fun c_2 => ?_) (fun c_2 => ?_)
  · have e_39 : (ffO (fun v => cnS lg v 6 && (told (wv kd fi se a v) true && !told (wv kd fi se b v) true)) 4096).isNone = false := by
      cases h9 : ffO (fun v => cnS lg v 6 && (told (wv kd fi se a v) true && !told (wv kd fi se b v) true)) 4096 with
      | none => exact absurd (ffn.mpr h9) c_2
      | some w => rfl
    refine lv_iconst (v := nI 0) hx hb dX1_entails_46 (by decide) ?_
    exact kret _ u1 _ _ _ _ (by rw [e_39]; rfl) hP hS dX1_entails_47
  · have e_39 : (ffO (fun v => cnS lg v 6 && (told (wv kd fi se a v) true && !told (wv kd fi se b v) true)) 4096).isNone = true := by rw [ffn.mp c_2]; rfl
    refine lv_iconst (v := nI 1) hx hb dX1_entails_42 (by decide) ?_
    refine lv_goto (tgt := 47) hx hb dX1_entails_43 (by decide) ?_
    exact kret _ u1 _ _ _ _ (by rw [e_39]; rfl) hP hS dX1_entails_47

set_option maxHeartbeats 4000000 in
set_option maxRecDepth 100000 in
theorem d_X1_entails_1 (hM : OKM n kd fi se tr sy lt lg ru) (y : Int32) (x : Int32) (hx9 : x < 0 ∨ nI n ≤ x) : MuI l yX1_entails wsX1_entails rm_X1_entails D vwCl (wM bd cI cZ cJ th n kd fi se sd tr on sy lt ru lg rs) (fun u => wM bd cI cZ cJ (nI 1) n kd fi se sd tr on sy lt ru lg u) (tyC cI cZ cJ) [.ref (bd 0), .int x, .int y] (bI false) := by
  refine MuI.of (cc := cX1_entails) (maxL := 3) (by decide) rfl (Nat.le_of_ble_eq_true rfl) (bI_n _) ?_
  intro A p e s m args below meth c Q ls hx hb hml hown hts hP hK hD kret hl
  have hown : s.vm.findClass RX1 = some m.cls := hown
  have hl : lv_has ls 3 [(0, .ref (bd 0)), (1, .int x), (2, .int y)] := hl
  have hS : va_S A s.heap s.heap [] := va_S.rf
  have hin0 : ∀ w ∈ u_ws RX1 TX1 13, w ∈ wsX1_entails := hin_X1_entails
  refine lv_aload_n hx hb dX1_entails_0 rfl (lv_at hl 0 rfl) ?_
  refine lv_aload_n hx hb dX1_entails_1 rfl (lv_at hl 0 rfl) ?_
  refine lv_iload_n hx hb dX1_entails_2 rfl (lv_at hl 1 rfl) ?_
  refine puI_V (own := RX1) (As := [.int x]) (rest := [.ref (bd 0)]) (C := RX1) (ci := 1) (q0 := 0) ⟨hx, hb, hml, hown, hts⟩ (c_X1_isFormula l D bd cI cZ cJ th n kd fi se sd tr on sy lt ru lg rs x) gX1_entails_X1_isFormula rfl ⟨rfl, rfl⟩ 1 rfl (by decide +kernel) ⟨Nat.le_of_ble_eq_true rfl, Nat.le_of_ble_eq_true rfl⟩ hP hK rfl rfl rfl hS hl.1 rfl (Nat.le_of_ble_eq_true rfl) dX1_entails_3 ⟨Nat.zero_le _, Nat.zero_le _⟩ (fun H locs hk1 hS => ?_)
  replace hP := keptP hP hk1
  refine tc_int (y := bI false) (by rw [isF_f hx9 hM.1]) ?_
  refine zT_eq (tgt := 21) hx hb dX1_entails_6 (by decide) (rfl) ?_
  refine lv_iconst (v := nI 1) hx hb dX1_entails_21 (by decide) ?_
  refine va_put (D := D) (ci := 1) (v := .int (nI 1)) (ty := .int) (C := RX1) (T := TX1) (N := 13) hx hb hts hin0 tyX1 tyX1_ok nmX1 hown hK hP hD hS 0 rfl rfl 0 (by decide) (hts (.fieldLink RX1 45 "RumourReasonerModel" "thrown" "I") (by decide +kernel)) (fun _ h9 => h9) rfl (by decide +kernel) rfl rfl (Nat.le_of_ble_eq_true rfl) dX1_entails_22 (fun H locs hP hD hS => ?_)
  have hP : va_P D vwCl (wM bd cI cZ cJ (nI 1) n kd fi se sd tr on sy lt ru lg rs) H := hP
  have hD : va_D A (wM bd cI cZ cJ (nI 1) n kd fi se sd tr on sy lt ru lg rs) := hD
  refine lv_aload_n hx hb dX1_entails_25 rfl (lv_at hl 0 rfl) ?_
  refine va_get (D := D) (ci := 1) (v := .int (nI 1)) (C := RX1) (T := TX1) (N := 13) hx hb hts hin0 hown hK hP 0 rfl rfl 0 (by decide) (hts (.fieldLink RX1 45 "RumourReasonerModel" "thrown" "I") (by decide +kernel)) (fun _ h9 => h9) rfl dX1_entails_26 ?_
  refine zT_ne (tgt := 46) hx hb dX1_entails_29 (by decide) (by decide) ?_
  refine lv_iconst (v := nI 0) hx hb dX1_entails_46 (by decide) ?_
  exact kret _ rs _ _ _ _ (rfl) hP hS dX1_entails_47

set_option maxHeartbeats 4000000 in
set_option maxRecDepth 100000 in
theorem d_X1_entails_2 (hM : OKM n kd fi se tr sy lt lg ru) (a : Nat) (ha : a < n) (x : Int32) (hx9 : x < 0 ∨ nI n ≤ x) : MuI l yX1_entails wsX1_entails rm_X1_entails D vwCl (wM bd cI cZ cJ th n kd fi se sd tr on sy lt ru lg rs) (fun u => wM bd cI cZ cJ (nI 1) n kd fi se sd tr on sy lt ru lg u) (tyC cI cZ cJ) [.ref (bd 0), .int (nI a), .int x] (bI false) := by
  refine MuI.of (cc := cX1_entails) (maxL := 3) (by decide) rfl (Nat.le_of_ble_eq_true rfl) (bI_n _) ?_
  intro A p e s m args below meth c Q ls hx hb hml hown hts hP hK hD kret hl
  have hown : s.vm.findClass RX1 = some m.cls := hown
  have hl : lv_has ls 3 [(0, .ref (bd 0)), (1, .int (nI a)), (2, .int x)] := hl
  have hS : va_S A s.heap s.heap [] := va_S.rf
  have hin0 : ∀ w ∈ u_ws RX1 TX1 13, w ∈ wsX1_entails := hin_X1_entails
  refine lv_aload_n hx hb dX1_entails_0 rfl (lv_at hl 0 rfl) ?_
  refine lv_aload_n hx hb dX1_entails_1 rfl (lv_at hl 0 rfl) ?_
  refine lv_iload_n hx hb dX1_entails_2 rfl (lv_at hl 1 rfl) ?_
  refine puI_V (own := RX1) (As := [.int (nI a)]) (rest := [.ref (bd 0)]) (C := RX1) (ci := 1) (q0 := 0) ⟨hx, hb, hml, hown, hts⟩ (c_X1_isFormula l D bd cI cZ cJ th n kd fi se sd tr on sy lt ru lg rs (nI a)) gX1_entails_X1_isFormula rfl ⟨rfl, rfl⟩ 1 rfl (by decide +kernel) ⟨Nat.le_of_ble_eq_true rfl, Nat.le_of_ble_eq_true rfl⟩ hP hK rfl rfl rfl hS hl.1 rfl (Nat.le_of_ble_eq_true rfl) dX1_entails_3 ⟨Nat.zero_le _, Nat.zero_le _⟩ (fun H locs hk1 hS => ?_)
  replace hP := keptP hP hk1
  refine tc_int (y := bI true) (by rw [isF_t ha hM.1]) ?_
  refine zF_eq (tgt := 21) hx hb dX1_entails_6 (by decide) (by decide) ?_
  refine lv_aload_n hx hb dX1_entails_9 rfl (lv_at hl 0 rfl) ?_
  refine lv_iload_n hx hb dX1_entails_10 rfl (lv_at hl 2 rfl) ?_
  refine puI_V (own := RX1) (As := [.int x]) (rest := [.ref (bd 0)]) (C := RX1) (ci := 1) (q0 := 0) ⟨hx, hb, hml, hown, hts⟩ (c_X1_isFormula l D bd cI cZ cJ th n kd fi se sd tr on sy lt ru lg rs x) gX1_entails_X1_isFormula rfl ⟨rfl, rfl⟩ 1 rfl (by decide +kernel) ⟨Nat.le_of_ble_eq_true rfl, Nat.le_of_ble_eq_true rfl⟩ hP hK rfl rfl rfl hS hl.1 rfl (Nat.le_of_ble_eq_true rfl) dX1_entails_11 ⟨Nat.zero_le _, Nat.zero_le _⟩ (fun H locs hk1 hS => ?_)
  replace hP := keptP hP hk1
  refine tc_int (y := bI false) (by rw [isF_f hx9 hM.1]) ?_
  refine zT_eq (tgt := 21) hx hb dX1_entails_14 (by decide) (rfl) ?_
  refine lv_iconst (v := nI 1) hx hb dX1_entails_21 (by decide) ?_
  refine va_put (D := D) (ci := 1) (v := .int (nI 1)) (ty := .int) (C := RX1) (T := TX1) (N := 13) hx hb hts hin0 tyX1 tyX1_ok nmX1 hown hK hP hD hS 0 rfl rfl 0 (by decide) (hts (.fieldLink RX1 45 "RumourReasonerModel" "thrown" "I") (by decide +kernel)) (fun _ h9 => h9) rfl (by decide +kernel) rfl rfl (Nat.le_of_ble_eq_true rfl) dX1_entails_22 (fun H locs hP hD hS => ?_)
  have hP : va_P D vwCl (wM bd cI cZ cJ (nI 1) n kd fi se sd tr on sy lt ru lg rs) H := hP
  have hD : va_D A (wM bd cI cZ cJ (nI 1) n kd fi se sd tr on sy lt ru lg rs) := hD
  refine lv_aload_n hx hb dX1_entails_25 rfl (lv_at hl 0 rfl) ?_
  refine va_get (D := D) (ci := 1) (v := .int (nI 1)) (C := RX1) (T := TX1) (N := 13) hx hb hts hin0 hown hK hP 0 rfl rfl 0 (by decide) (hts (.fieldLink RX1 45 "RumourReasonerModel" "thrown" "I") (by decide +kernel)) (fun _ h9 => h9) rfl dX1_entails_26 ?_
  refine zT_ne (tgt := 46) hx hb dX1_entails_29 (by decide) (by decide) ?_
  refine lv_iconst (v := nI 0) hx hb dX1_entails_46 (by decide) ?_
  exact kret _ rs _ _ _ _ (rfl) hP hS dX1_entails_47

theorem hin_X1_areEqual : ∀ w ∈ wsX10, w ∈ wsX1_areEqual := by first | exact fun _ h => List.mem_cons_of_mem _ (List.mem_append_right _ h) | exact fun _ h => List.mem_cons_of_mem _ (List.mem_append_left _ (List.mem_append_right _ h)) | exact fun _ h => List.mem_cons_of_mem _ (List.mem_append_left _ (List.mem_append_left _ (List.mem_append_right _ h))) | exact fun _ h => List.mem_cons_of_mem _ (List.mem_append_left _ (List.mem_append_left _ (List.mem_append_left _ (List.mem_append_right _ h)))) | decide +kernel
def rm_X1_areEqual : Room := { frames := 2, cells := 0, slots := 0, locals := 47 }
set_option maxHeartbeats 4000000 in
set_option maxRecDepth 100000 in
theorem c_X1_areEqual (hM : OKM n kd fi se tr sy lt lg ru) (a b : Nat) (ha : a < n) (hb9 : b < n) : MuI l yX1_areEqual wsX1_areEqual rm_X1_areEqual D vwCl (wM bd cI cZ cJ th n kd fi se sd tr on sy lt ru lg rs) (fun u => wM bd cI cZ cJ (nI 0) n kd fi se sd tr on sy lt ru lg u) (tyC cI cZ cJ) [.ref (bd 0), .int (nI a), .int (nI b)] (bI (eqS (fun v => cnS lg v 6) (fun v => wv kd fi se a v) (fun v => wv kd fi se b v) 4096)) := by
  refine MuI.of (cc := cX1_areEqual) (maxL := 5) (by decide) rfl (Nat.le_of_ble_eq_true rfl) (bI_n _) ?_
  intro A p e s m args below meth c Q ls hx hb hml hown hts hP hK hD kret hl
  have hown : s.vm.findClass RX1 = some m.cls := hown
  have hl : lv_has ls 5 [(0, .ref (bd 0)), (1, .int (nI a)), (2, .int (nI b))] := hl
  have hS : va_S A s.heap s.heap [] := va_S.rf
  have hin0 : ∀ w ∈ u_ws RX1 TX1 13, w ∈ wsX1_areEqual := hin_X1_areEqual
  refine lv_aload_n hx hb dX1_areEqual_0 rfl (lv_at hl 0 rfl) ?_
  refine lv_aload_n hx hb dX1_areEqual_1 rfl (lv_at hl 0 rfl) ?_
  refine lv_iload_n hx hb dX1_areEqual_2 rfl (lv_at hl 1 rfl) ?_
  refine puI_V (own := RX1) (As := [.int (nI a)]) (rest := [.ref (bd 0)]) (C := RX1) (ci := 1) (q0 := 0) ⟨hx, hb, hml, hown, hts⟩ (c_X1_isFormula l D bd cI cZ cJ th n kd fi se sd tr on sy lt ru lg rs (nI a)) gX1_areEqual_X1_isFormula rfl ⟨rfl, rfl⟩ 1 rfl (by decide +kernel) ⟨Nat.le_of_ble_eq_true rfl, Nat.le_of_ble_eq_true rfl⟩ hP hK rfl rfl rfl hS hl.1 rfl (Nat.le_of_ble_eq_true rfl) dX1_areEqual_3 ⟨Nat.zero_le _, Nat.zero_le _⟩ (fun H locs hk1 hS => ?_)
  replace hP := keptP hP hk1
  refine tc_int (y := bI true) (by rw [isF_t ha hM.1]) ?_
  refine zF_eq (tgt := 21) hx hb dX1_areEqual_6 (by decide) (by decide) ?_
  refine lv_aload_n hx hb dX1_areEqual_9 rfl (lv_at hl 0 rfl) ?_
  refine lv_iload_n hx hb dX1_areEqual_10 rfl (lv_at hl 2 rfl) ?_
  refine puI_V (own := RX1) (As := [.int (nI b)]) (rest := [.ref (bd 0)]) (C := RX1) (ci := 1) (q0 := 0) ⟨hx, hb, hml, hown, hts⟩ (c_X1_isFormula l D bd cI cZ cJ th n kd fi se sd tr on sy lt ru lg rs (nI b)) gX1_areEqual_X1_isFormula rfl ⟨rfl, rfl⟩ 1 rfl (by decide +kernel) ⟨Nat.le_of_ble_eq_true rfl, Nat.le_of_ble_eq_true rfl⟩ hP hK rfl rfl rfl hS hl.1 rfl (Nat.le_of_ble_eq_true rfl) dX1_areEqual_11 ⟨Nat.zero_le _, Nat.zero_le _⟩ (fun H locs hk1 hS => ?_)
  replace hP := keptP hP hk1
  refine tc_int (y := bI true) (by rw [isF_t hb9 hM.1]) ?_
  refine zF_eq (tgt := 21) hx hb dX1_areEqual_14 (by decide) (by decide) ?_
  refine lv_iconst (v := nI 0) hx hb dX1_areEqual_17 (by decide) ?_
  refine lv_goto (tgt := 22) hx hb dX1_areEqual_18 (by decide) ?_
  refine va_put (D := D) (ci := 1) (v := .int (nI 0)) (ty := .int) (C := RX1) (T := TX1) (N := 13) hx hb hts hin0 tyX1 tyX1_ok nmX1 hown hK hP hD hS 0 rfl rfl 0 (by decide) (hts (.fieldLink RX1 45 "RumourReasonerModel" "thrown" "I") (by decide +kernel)) (fun _ h9 => h9) rfl (by decide +kernel) rfl rfl (Nat.le_of_ble_eq_true rfl) dX1_areEqual_22 (fun H locs hP hD hS => ?_)
  have hP : va_P D vwCl (wM bd cI cZ cJ (nI 0) n kd fi se sd tr on sy lt ru lg rs) H := hP
  have hD : va_D A (wM bd cI cZ cJ (nI 0) n kd fi se sd tr on sy lt ru lg rs) := hD
  refine lv_aload_n hx hb dX1_areEqual_25 rfl (lv_at hl 0 rfl) ?_
  refine va_get (D := D) (ci := 1) (v := .int (nI 0)) (C := RX1) (T := TX1) (N := 13) hx hb hts hin0 hown hK hP 0 rfl rfl 0 (by decide) (hts (.fieldLink RX1 45 "RumourReasonerModel" "thrown" "I") (by decide +kernel)) (fun _ h9 => h9) rfl dX1_areEqual_26 ?_
  refine zF_ne (tgt := 36) hx hb dX1_areEqual_29 (by decide) (rfl) ?_
  refine lv_iconst (v := nI 1) hx hb dX1_areEqual_32 (by decide) ?_
  refine tc_int (y := bI (eqS (fun v => cnS lg v 6) (fun v => wv kd fi se a v) (fun v => wv kd fi se b v) 0)) (rfl) ?_
  refine lv_goto (tgt := 37) hx hb dX1_areEqual_33 (by decide) ?_
  refine lv_istore_n (lv' := [(3, .int (bI (eqS (fun v => cnS lg v 6) (fun v => wv kd fi se a v) (fun v => wv kd fi se b v) 0))), (0, .ref (bd 0)), (1, .int (nI a)), (2, .int (nI b))]) hx hb dX1_areEqual_37 rfl hl (by decide) rfl (fun ls hl => ?_)
  refine lv_iconst (v := nI 0) hx hb dX1_areEqual_38 (by decide) ?_
  refine lv_istore (lv' := [(4, .int (nI 0)), (3, .int (bI (eqS (fun v => cnS lg v 6) (fun v => wv kd fi se a v) (fun v => wv kd fi se b v) 0))), (0, .ref (bd 0)), (1, .int (nI a)), (2, .int (nI b))]) hx hb dX1_areEqual_39 hl (by decide) rfl (fun ls hl => ?_)
  have key1 : ∀ (d3 v2 : Nat), v2 + d3 = 4096 → ∀ (rs_v2 : Nat → Int32), ∀ (H : Heap) (locs : List Loc) (ls : Array Slot), va_P D vwCl (wM bd cI cZ cJ (nI 0) n kd fi se sd tr on sy lt ru lg rs_v2) H → va_D A (wM bd cI cZ cJ (nI 0) n kd fi se sd tr on sy lt ru lg rs_v2) → va_S A s.heap H locs → lv_has ls 5 [(4, .int (nI v2)), (3, .int (bI (eqS (fun v => cnS lg v 6) (fun v => wv kd fi se a v) (fun v => wv kd fi se b v) v2))), (0, .ref (bd 0)), (1, .int (nI a)), (2, .int (nI b))] → W p l e rm_X1_areEqual s m args below meth c H locs 0 0 Q (F0 m 41 ls []) := by
    intro d3
    induction d3 with
    | zero =>
      intro v2 hi_v2 rs_v2 H locs ls hP hD hS hl
      obtain rfl : v2 = 4096 := by omega
      refine lv_iload hx hb dX1_areEqual_41 (lv_at hl 0 rfl) ?_
      refine lv_sipush (v := nI 4096) hx hb dX1_areEqual_43 (by decide) ?_
      refine cT_ge (tgt := 91) hx hb dX1_areEqual_46 (by decide) (nI_le (by omega) (by omega)) ?_
      refine lv_iload_n hx hb dX1_areEqual_91 rfl (lv_at hl 1 rfl) ?_
      exact kret _ rs_v2 _ _ _ _ (rfl) hP hS dX1_areEqual_92
    | succ d3 ih_v2 =>
      intro v2 hi_v2 rs_v2 H locs ls hP hD hS hl
      refine lv_iload hx hb dX1_areEqual_41 (lv_at hl 0 rfl) ?_
      refine lv_sipush (v := nI 4096) hx hb dX1_areEqual_43 (by decide) ?_
      refine cF_ge (tgt := 91) hx hb dX1_areEqual_46 (by decide) (nI_ge (by omega) (by omega)) ?_
      refine lv_iload_n hx hb dX1_areEqual_49 rfl (lv_at hl 1 rfl) ?_
      refine lv_if_eq (tgt := 91) hx hb dX1_areEqual_50 (by decide) (fun c_4 => ?_) (fun c_4 => ?_)
      · have e_50 := bI_0 c_4
        refine lv_iload_n hx hb dX1_areEqual_91 rfl (lv_at hl 1 rfl) ?_
        exact kret _ rs_v2 _ _ _ _ (by rw [e_50]; have := eqS_f e_50 (4096 - v2); rw [show v2 + (4096 - v2) = 4096 by omega] at this; rw [this]) hP hS dX1_areEqual_92
      · have e_50 := bI_1 c_4
        refine lv_aload_n hx hb dX1_areEqual_53 rfl (lv_at hl 2 rfl) ?_
        refine lv_iload hx hb dX1_areEqual_54 (lv_at hl 0 rfl) ?_
        refine puI_V (own := RX1) (As := [.int (nI v2)]) (rest := []) (C := RX1) (ci := 1) (q0 := 0) ⟨hx, hb, hml, hown, hts⟩ (c_X1_counts l D bd cI cZ cJ (nI 0) n kd fi se sd tr on sy lt ru lg rs_v2 hM v2 (by omega)) gX1_areEqual_X1_counts rfl ⟨rfl, rfl⟩ 1 rfl (by decide +kernel) ⟨Nat.le_of_ble_eq_true rfl, Nat.le_of_ble_eq_true rfl⟩ hP hK rfl rfl rfl hS hl.1 rfl (Nat.le_of_ble_eq_true rfl) dX1_areEqual_56 ⟨Nat.zero_le _, Nat.zero_le _⟩ (fun H locs hk1 hS => ?_)
        replace hP := keptP hP hk1
        refine lv_if_eq (tgt := 79) hx hb dX1_areEqual_59 (by decide) (fun c_5 => ?_) (fun c_5 => ?_)
        · have e_59 := bI_0 c_5
          refine lv_iconst (v := nI 1) hx hb dX1_areEqual_79 (by decide) ?_
          refine lv_goto (tgt := 84) hx hb dX1_areEqual_80 (by decide) ?_
          refine lv_istore_n (lv' := [(3, .int (nI 1)), (4, .int (nI v2)), (0, .ref (bd 0)), (1, .int (nI a)), (2, .int (nI b))]) hx hb dX1_areEqual_84 rfl hl (by decide) rfl (fun ls hl => ?_)
          refine lv_iinc (v := nI (v2 + 1)) (lv' := [(4, .int (nI (v2 + 1))), (3, .int (nI 1)), (0, .ref (bd 0)), (1, .int (nI a)), (2, .int (nI b))]) hx hb dX1_areEqual_85 hl (k := 1) rfl (iinc1 _) (by decide) rfl (fun ls hl => ?_)
          refine lv_goto (tgt := 41) hx hb dX1_areEqual_88 (by decide) ?_
          exact ih_v2 (v2 + 1) (by omega) rs_v2 H locs ls hP hD hS (by have h9 := lv_sub hl [0, 1, 2, 3, 4] rfl; rw [show eqS (fun v => cnS lg v 6) (fun v => wv kd fi se a v) (fun v => wv kd fi se b v) (v2 + 1) = true from by show (eqS (fun v => cnS lg v 6) (fun v => wv kd fi se a v) (fun v => wv kd fi se b v) v2 && (!cnS lg v2 6 || _)) = true; rw [e_50, e_59]; rfl]; exact h9)
        · have e_59 := bI_1 c_5
          refine lv_aload_n hx hb dX1_areEqual_62 rfl (lv_at hl 2 rfl) ?_
          refine lv_iload_n hx hb dX1_areEqual_63 rfl (lv_at hl 3 rfl) ?_
          refine lv_iload hx hb dX1_areEqual_64 (lv_at hl 0 rfl) ?_
          refine muI_V (own := RX1) (As := [.int (nI a), .int (nI v2)]) (rest := []) (C := RX1) (ci := 1) (q0 := 0) (A1 := A) ⟨hx, hb, hml, hown, hts⟩ (c_X1_worth l D bd cI cZ cJ (nI 0) n kd fi se sd tr on sy lt ru lg rs_v2 hM a v2 (by omega) (by omega)) gX1_areEqual_X1_worth rfl ⟨rfl, rfl⟩ 2 rfl (by decide +kernel) ⟨Nat.le_of_ble_eq_true rfl, Nat.le_of_ble_eq_true rfl⟩ hP hK hD (fun _ h9 => h9) rfl rfl rfl hS hl.1 rfl (Nat.le_of_ble_eq_true rfl) dX1_areEqual_66 ⟨Nat.zero_le _, Nat.zero_le _⟩ (fun u6 H locs hP hz1 hk1 hS => ?_)
          replace hP : va_P D vwCl (wM bd cI cZ cJ (nI 0) n kd fi se sd tr on sy lt ru lg u6) H := hP
          replace hD : va_D A (wM bd cI cZ cJ (nI 0) n kd fi se sd tr on sy lt ru lg u6) := sameD2 hD rfl
          refine lv_aload_n hx hb dX1_areEqual_69 rfl (lv_at hl 2 rfl) ?_
          refine lv_iload_n hx hb dX1_areEqual_70 rfl (lv_at hl 4 rfl) ?_
          refine lv_iload hx hb dX1_areEqual_71 (lv_at hl 0 rfl) ?_
          refine muI_V (own := RX1) (As := [.int (nI b), .int (nI v2)]) (rest := [.int (nI (wv kd fi se a v2))]) (C := RX1) (ci := 1) (q0 := 0) (A1 := A) ⟨hx, hb, hml, hown, hts⟩ (c_X1_worth l D bd cI cZ cJ (nI 0) n kd fi se sd tr on sy lt ru lg u6 hM b v2 (by omega) (by omega)) gX1_areEqual_X1_worth rfl ⟨rfl, rfl⟩ 2 rfl (by decide +kernel) ⟨Nat.le_of_ble_eq_true rfl, Nat.le_of_ble_eq_true rfl⟩ hP hK hD (fun _ h9 => h9) rfl rfl rfl hS hl.1 rfl (Nat.le_of_ble_eq_true rfl) dX1_areEqual_73 ⟨Nat.zero_le _, Nat.zero_le _⟩ (fun u7 H locs hP hz1 hk1 hS => ?_)
          replace hP : va_P D vwCl (wM bd cI cZ cJ (nI 0) n kd fi se sd tr on sy lt ru lg u7) H := hP
          replace hD : va_D A (wM bd cI cZ cJ (nI 0) n kd fi se sd tr on sy lt ru lg u7) := sameD2 hD rfl
          refine lv_icmp_ne (tgt := 83) hx hb dX1_areEqual_76 (by decide) (fun c_8 => ?_) (fun c_8 => ?_)
          · have e_76 : decide (wv kd fi se a v2 = wv kd fi se b v2) = false := decide_eq_false (fun q => c_8 (by rw [q]))
            refine lv_iconst (v := nI 0) hx hb dX1_areEqual_83 (by decide) ?_
            refine lv_istore_n (lv' := [(3, .int (nI 0)), (4, .int (nI v2)), (0, .ref (bd 0)), (1, .int (nI a)), (2, .int (nI b))]) hx hb dX1_areEqual_84 rfl hl (by decide) rfl (fun ls hl => ?_)
            refine lv_iinc (v := nI (v2 + 1)) (lv' := [(4, .int (nI (v2 + 1))), (3, .int (nI 0)), (0, .ref (bd 0)), (1, .int (nI a)), (2, .int (nI b))]) hx hb dX1_areEqual_85 hl (k := 1) rfl (iinc1 _) (by decide) rfl (fun ls hl => ?_)
            refine lv_goto (tgt := 41) hx hb dX1_areEqual_88 (by decide) ?_
            exact ih_v2 (v2 + 1) (by omega) u7 H locs ls hP hD hS (by have h9 := lv_sub hl [0, 1, 2, 3, 4] rfl; rw [show eqS (fun v => cnS lg v 6) (fun v => wv kd fi se a v) (fun v => wv kd fi se b v) (v2 + 1) = false from by show (eqS (fun v => cnS lg v 6) (fun v => wv kd fi se a v) (fun v => wv kd fi se b v) v2 && (!cnS lg v2 6 || decide (wv kd fi se a v2 = wv kd fi se b v2))) = false; rw [e_50, e_59, e_76]; rfl]; exact h9)
          · have e_76 : decide (wv kd fi se a v2 = wv kd fi se b v2) = true := decide_eq_true ((nI_eq (Nat.lt_trans (wv_lt hM.2.2.2.2.2.2 _ _ ha) (by decide)) (Nat.lt_trans (wv_lt hM.2.2.2.2.2.2 _ _ hb9) (by decide))).mp c_8)
            refine lv_iconst (v := nI 1) hx hb dX1_areEqual_79 (by decide) ?_
            refine lv_goto (tgt := 84) hx hb dX1_areEqual_80 (by decide) ?_
            refine lv_istore_n (lv' := [(3, .int (nI 1)), (4, .int (nI v2)), (0, .ref (bd 0)), (1, .int (nI a)), (2, .int (nI b))]) hx hb dX1_areEqual_84 rfl hl (by decide) rfl (fun ls hl => ?_)
            refine lv_iinc (v := nI (v2 + 1)) (lv' := [(4, .int (nI (v2 + 1))), (3, .int (nI 1)), (0, .ref (bd 0)), (1, .int (nI a)), (2, .int (nI b))]) hx hb dX1_areEqual_85 hl (k := 1) rfl (iinc1 _) (by decide) rfl (fun ls hl => ?_)
            refine lv_goto (tgt := 41) hx hb dX1_areEqual_88 (by decide) ?_
            exact ih_v2 (v2 + 1) (by omega) u7 H locs ls hP hD hS (by have h9 := lv_sub hl [0, 1, 2, 3, 4] rfl; rw [show eqS (fun v => cnS lg v 6) (fun v => wv kd fi se a v) (fun v => wv kd fi se b v) (v2 + 1) = true from by show (eqS (fun v => cnS lg v 6) (fun v => wv kd fi se a v) (fun v => wv kd fi se b v) v2 && (!cnS lg v2 6 || decide (wv kd fi se a v2 = wv kd fi se b v2))) = true; rw [e_50, e_59, e_76]; rfl]; exact h9)
  exact key1 (4096) 0 (by omega) rs _ _ ls hP hD hS (lv_sub hl [0, 1, 2, 3, 4] rfl)

set_option maxHeartbeats 4000000 in
set_option maxRecDepth 100000 in
theorem d_X1_areEqual_1 (hM : OKM n kd fi se tr sy lt lg ru) (y : Int32) (x : Int32) (hx9 : x < 0 ∨ nI n ≤ x) : MuI l yX1_areEqual wsX1_areEqual rm_X1_areEqual D vwCl (wM bd cI cZ cJ th n kd fi se sd tr on sy lt ru lg rs) (fun u => wM bd cI cZ cJ (nI 1) n kd fi se sd tr on sy lt ru lg u) (tyC cI cZ cJ) [.ref (bd 0), .int x, .int y] (bI false) := by
  refine MuI.of (cc := cX1_areEqual) (maxL := 5) (by decide) rfl (Nat.le_of_ble_eq_true rfl) (bI_n _) ?_
  intro A p e s m args below meth c Q ls hx hb hml hown hts hP hK hD kret hl
  have hown : s.vm.findClass RX1 = some m.cls := hown
  have hl : lv_has ls 5 [(0, .ref (bd 0)), (1, .int x), (2, .int y)] := hl
  have hS : va_S A s.heap s.heap [] := va_S.rf
  have hin0 : ∀ w ∈ u_ws RX1 TX1 13, w ∈ wsX1_areEqual := hin_X1_areEqual
  refine lv_aload_n hx hb dX1_areEqual_0 rfl (lv_at hl 0 rfl) ?_
  refine lv_aload_n hx hb dX1_areEqual_1 rfl (lv_at hl 0 rfl) ?_
  refine lv_iload_n hx hb dX1_areEqual_2 rfl (lv_at hl 1 rfl) ?_
  refine puI_V (own := RX1) (As := [.int x]) (rest := [.ref (bd 0)]) (C := RX1) (ci := 1) (q0 := 0) ⟨hx, hb, hml, hown, hts⟩ (c_X1_isFormula l D bd cI cZ cJ th n kd fi se sd tr on sy lt ru lg rs x) gX1_areEqual_X1_isFormula rfl ⟨rfl, rfl⟩ 1 rfl (by decide +kernel) ⟨Nat.le_of_ble_eq_true rfl, Nat.le_of_ble_eq_true rfl⟩ hP hK rfl rfl rfl hS hl.1 rfl (Nat.le_of_ble_eq_true rfl) dX1_areEqual_3 ⟨Nat.zero_le _, Nat.zero_le _⟩ (fun H locs hk1 hS => ?_)
  replace hP := keptP hP hk1
  refine tc_int (y := bI false) (by rw [isF_f hx9 hM.1]) ?_
  refine zT_eq (tgt := 21) hx hb dX1_areEqual_6 (by decide) (rfl) ?_
  refine lv_iconst (v := nI 1) hx hb dX1_areEqual_21 (by decide) ?_
  refine va_put (D := D) (ci := 1) (v := .int (nI 1)) (ty := .int) (C := RX1) (T := TX1) (N := 13) hx hb hts hin0 tyX1 tyX1_ok nmX1 hown hK hP hD hS 0 rfl rfl 0 (by decide) (hts (.fieldLink RX1 45 "RumourReasonerModel" "thrown" "I") (by decide +kernel)) (fun _ h9 => h9) rfl (by decide +kernel) rfl rfl (Nat.le_of_ble_eq_true rfl) dX1_areEqual_22 (fun H locs hP hD hS => ?_)
  have hP : va_P D vwCl (wM bd cI cZ cJ (nI 1) n kd fi se sd tr on sy lt ru lg rs) H := hP
  have hD : va_D A (wM bd cI cZ cJ (nI 1) n kd fi se sd tr on sy lt ru lg rs) := hD
  refine lv_aload_n hx hb dX1_areEqual_25 rfl (lv_at hl 0 rfl) ?_
  refine va_get (D := D) (ci := 1) (v := .int (nI 1)) (C := RX1) (T := TX1) (N := 13) hx hb hts hin0 hown hK hP 0 rfl rfl 0 (by decide) (hts (.fieldLink RX1 45 "RumourReasonerModel" "thrown" "I") (by decide +kernel)) (fun _ h9 => h9) rfl dX1_areEqual_26 ?_
  refine zT_ne (tgt := 36) hx hb dX1_areEqual_29 (by decide) (by decide) ?_
  refine lv_iconst (v := nI 0) hx hb dX1_areEqual_36 (by decide) ?_
  refine tc_int (y := bI false) (rfl) ?_
  refine lv_istore_n (lv' := [(3, .int (bI false)), (0, .ref (bd 0)), (1, .int x), (2, .int y)]) hx hb dX1_areEqual_37 rfl hl (by decide) rfl (fun ls hl => ?_)
  refine lv_iconst (v := nI 0) hx hb dX1_areEqual_38 (by decide) ?_
  refine lv_istore (lv' := [(4, .int (nI 0)), (3, .int (bI false)), (0, .ref (bd 0)), (1, .int x), (2, .int y)]) hx hb dX1_areEqual_39 hl (by decide) rfl (fun ls hl => ?_)
  refine lv_iload hx hb dX1_areEqual_41 (lv_at hl 0 rfl) ?_
  refine lv_sipush (v := nI 4096) hx hb dX1_areEqual_43 (by decide) ?_
  refine cF_ge (tgt := 91) hx hb dX1_areEqual_46 (by decide) (nI_ge (by omega) (by omega)) ?_
  refine lv_iload_n hx hb dX1_areEqual_49 rfl (lv_at hl 1 rfl) ?_
  refine zT_eq (tgt := 91) hx hb dX1_areEqual_50 (by decide) (rfl) ?_
  refine lv_iload_n hx hb dX1_areEqual_91 rfl (lv_at hl 1 rfl) ?_
  exact kret _ rs _ _ _ _ (rfl) hP hS dX1_areEqual_92

set_option maxHeartbeats 4000000 in
set_option maxRecDepth 100000 in
theorem d_X1_areEqual_2 (hM : OKM n kd fi se tr sy lt lg ru) (a : Nat) (ha : a < n) (x : Int32) (hx9 : x < 0 ∨ nI n ≤ x) : MuI l yX1_areEqual wsX1_areEqual rm_X1_areEqual D vwCl (wM bd cI cZ cJ th n kd fi se sd tr on sy lt ru lg rs) (fun u => wM bd cI cZ cJ (nI 1) n kd fi se sd tr on sy lt ru lg u) (tyC cI cZ cJ) [.ref (bd 0), .int (nI a), .int x] (bI false) := by
  refine MuI.of (cc := cX1_areEqual) (maxL := 5) (by decide) rfl (Nat.le_of_ble_eq_true rfl) (bI_n _) ?_
  intro A p e s m args below meth c Q ls hx hb hml hown hts hP hK hD kret hl
  have hown : s.vm.findClass RX1 = some m.cls := hown
  have hl : lv_has ls 5 [(0, .ref (bd 0)), (1, .int (nI a)), (2, .int x)] := hl
  have hS : va_S A s.heap s.heap [] := va_S.rf
  have hin0 : ∀ w ∈ u_ws RX1 TX1 13, w ∈ wsX1_areEqual := hin_X1_areEqual
  refine lv_aload_n hx hb dX1_areEqual_0 rfl (lv_at hl 0 rfl) ?_
  refine lv_aload_n hx hb dX1_areEqual_1 rfl (lv_at hl 0 rfl) ?_
  refine lv_iload_n hx hb dX1_areEqual_2 rfl (lv_at hl 1 rfl) ?_
  refine puI_V (own := RX1) (As := [.int (nI a)]) (rest := [.ref (bd 0)]) (C := RX1) (ci := 1) (q0 := 0) ⟨hx, hb, hml, hown, hts⟩ (c_X1_isFormula l D bd cI cZ cJ th n kd fi se sd tr on sy lt ru lg rs (nI a)) gX1_areEqual_X1_isFormula rfl ⟨rfl, rfl⟩ 1 rfl (by decide +kernel) ⟨Nat.le_of_ble_eq_true rfl, Nat.le_of_ble_eq_true rfl⟩ hP hK rfl rfl rfl hS hl.1 rfl (Nat.le_of_ble_eq_true rfl) dX1_areEqual_3 ⟨Nat.zero_le _, Nat.zero_le _⟩ (fun H locs hk1 hS => ?_)
  replace hP := keptP hP hk1
  refine tc_int (y := bI true) (by rw [isF_t ha hM.1]) ?_
  refine zF_eq (tgt := 21) hx hb dX1_areEqual_6 (by decide) (by decide) ?_
  refine lv_aload_n hx hb dX1_areEqual_9 rfl (lv_at hl 0 rfl) ?_
  refine lv_iload_n hx hb dX1_areEqual_10 rfl (lv_at hl 2 rfl) ?_
  refine puI_V (own := RX1) (As := [.int x]) (rest := [.ref (bd 0)]) (C := RX1) (ci := 1) (q0 := 0) ⟨hx, hb, hml, hown, hts⟩ (c_X1_isFormula l D bd cI cZ cJ th n kd fi se sd tr on sy lt ru lg rs x) gX1_areEqual_X1_isFormula rfl ⟨rfl, rfl⟩ 1 rfl (by decide +kernel) ⟨Nat.le_of_ble_eq_true rfl, Nat.le_of_ble_eq_true rfl⟩ hP hK rfl rfl rfl hS hl.1 rfl (Nat.le_of_ble_eq_true rfl) dX1_areEqual_11 ⟨Nat.zero_le _, Nat.zero_le _⟩ (fun H locs hk1 hS => ?_)
  replace hP := keptP hP hk1
  refine tc_int (y := bI false) (by rw [isF_f hx9 hM.1]) ?_
  refine zT_eq (tgt := 21) hx hb dX1_areEqual_14 (by decide) (rfl) ?_
  refine lv_iconst (v := nI 1) hx hb dX1_areEqual_21 (by decide) ?_
  refine va_put (D := D) (ci := 1) (v := .int (nI 1)) (ty := .int) (C := RX1) (T := TX1) (N := 13) hx hb hts hin0 tyX1 tyX1_ok nmX1 hown hK hP hD hS 0 rfl rfl 0 (by decide) (hts (.fieldLink RX1 45 "RumourReasonerModel" "thrown" "I") (by decide +kernel)) (fun _ h9 => h9) rfl (by decide +kernel) rfl rfl (Nat.le_of_ble_eq_true rfl) dX1_areEqual_22 (fun H locs hP hD hS => ?_)
  have hP : va_P D vwCl (wM bd cI cZ cJ (nI 1) n kd fi se sd tr on sy lt ru lg rs) H := hP
  have hD : va_D A (wM bd cI cZ cJ (nI 1) n kd fi se sd tr on sy lt ru lg rs) := hD
  refine lv_aload_n hx hb dX1_areEqual_25 rfl (lv_at hl 0 rfl) ?_
  refine va_get (D := D) (ci := 1) (v := .int (nI 1)) (C := RX1) (T := TX1) (N := 13) hx hb hts hin0 hown hK hP 0 rfl rfl 0 (by decide) (hts (.fieldLink RX1 45 "RumourReasonerModel" "thrown" "I") (by decide +kernel)) (fun _ h9 => h9) rfl dX1_areEqual_26 ?_
  refine zT_ne (tgt := 36) hx hb dX1_areEqual_29 (by decide) (by decide) ?_
  refine lv_iconst (v := nI 0) hx hb dX1_areEqual_36 (by decide) ?_
  refine tc_int (y := bI false) (rfl) ?_
  refine lv_istore_n (lv' := [(3, .int (bI false)), (0, .ref (bd 0)), (1, .int (nI a)), (2, .int x)]) hx hb dX1_areEqual_37 rfl hl (by decide) rfl (fun ls hl => ?_)
  refine lv_iconst (v := nI 0) hx hb dX1_areEqual_38 (by decide) ?_
  refine lv_istore (lv' := [(4, .int (nI 0)), (3, .int (bI false)), (0, .ref (bd 0)), (1, .int (nI a)), (2, .int x)]) hx hb dX1_areEqual_39 hl (by decide) rfl (fun ls hl => ?_)
  refine lv_iload hx hb dX1_areEqual_41 (lv_at hl 0 rfl) ?_
  refine lv_sipush (v := nI 4096) hx hb dX1_areEqual_43 (by decide) ?_
  refine cF_ge (tgt := 91) hx hb dX1_areEqual_46 (by decide) (nI_ge (by omega) (by omega)) ?_
  refine lv_iload_n hx hb dX1_areEqual_49 rfl (lv_at hl 1 rfl) ?_
  refine zT_eq (tgt := 91) hx hb dX1_areEqual_50 (by decide) (rfl) ?_
  refine lv_iload_n hx hb dX1_areEqual_91 rfl (lv_at hl 1 rfl) ?_
  exact kret _ rs _ _ _ _ (rfl) hP hS dX1_areEqual_92

end
