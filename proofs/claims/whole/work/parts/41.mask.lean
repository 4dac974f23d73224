section
variable (l : Launch) (D : va_G) (bd : Nat → Nat) (cI cZ cJ : ClassId) (th : Int32) (n : Nat) (kd fi se : Nat → Nat) (sd : Nat → Bool) (tr : Nat → Nat) (on : Nat → Bool) (sy : Nat → Nat) (lt : Nat) (ru : Nat → Option Nat) (lg : Nat) (rs : Nat → Int32)
theorem hin_X1_thrown : ∀ w ∈ wsX10, w ∈ wsX1_thrown := by first | exact fun _ h => List.mem_cons_of_mem _ (List.mem_append_right _ h) | exact fun _ h => List.mem_cons_of_mem _ (List.mem_append_left _ (List.mem_append_right _ h)) | exact fun _ h => List.mem_cons_of_mem _ (List.mem_append_left _ (List.mem_append_left _ (List.mem_append_right _ h))) | exact fun _ h => List.mem_cons_of_mem _ (List.mem_append_left _ (List.mem_append_left _ (List.mem_append_left _ (List.mem_append_right _ h)))) | decide +kernel
def rm_X1_thrown : Room := { frames := 0, cells := 0, slots := 0, locals := 0 }
set_option maxHeartbeats 4000000 in
set_option maxRecDepth 100000 in
theorem c_X1_thrown  : PuI l yX1_thrown wsX1_thrown rm_X1_thrown D vwCl (wM bd cI cZ cJ th n kd fi se sd tr on sy lt ru lg rs) (tyC cI cZ cJ) [.ref (bd 0)] th := by
  refine PuI.of (cc := cX1_thrown) (maxL := 1) (by decide) rfl (Nat.le_of_ble_eq_true rfl) (vp_nar_int _) ?_
  intro p e s m args below meth c Q ls hx hb hml hown hts hP hK kret hl
  have hown : s.vm.findClass RX1 = some m.cls := hown
  have hl : lv_has ls 1 [(0, .ref (bd 0))] := hl
  have hS : va_S (fun _ => False) s.heap s.heap [] := va_S.rf
  have hin0 : ∀ w ∈ u_ws RX1 TX1 13, w ∈ wsX1_thrown := hin_X1_thrown
  refine lv_aload_n hx hb dX1_thrown_0 rfl (lv_at hl 0 rfl) ?_
  refine va_get (D := D) (ci := 1) (v := .int th) (C := RX1) (T := TX1) (N := 13) hx hb hts hin0 hown hK hP 0 rfl rfl 0 (by decide) (hts (.fieldLink RX1 45 "RumourReasonerModel" "thrown" "I") (by decide +kernel)) (fun _ h9 => h9) rfl dX1_thrown_1 ?_
  exact kret _ _ _ _ _ (rfl) hS dX1_thrown_4

theorem hin_X1_no : ∀ w ∈ wsX10, w ∈ wsX1_no := by first | exact fun _ h => List.mem_cons_of_mem _ (List.mem_append_right _ h) | exact fun _ h => List.mem_cons_of_mem _ (List.mem_append_left _ (List.mem_append_right _ h)) | exact fun _ h => List.mem_cons_of_mem _ (List.mem_append_left _ (List.mem_append_left _ (List.mem_append_right _ h))) | exact fun _ h => List.mem_cons_of_mem _ (List.mem_append_left _ (List.mem_append_left _ (List.mem_append_left _ (List.mem_append_right _ h)))) | decide +kernel
def rm_X1_no : Room := { frames := 0, cells := 0, slots := 0, locals := 0 }
set_option maxHeartbeats 4000000 in
set_option maxRecDepth 100000 in
theorem c_X1_no (k : Nat) : MuI l yX1_no wsX1_no rm_X1_no D vwCl (wM bd cI cZ cJ th n kd fi se sd tr on sy lt ru lg rs) (fun u => wM bd cI cZ cJ (nI k) n kd fi se sd tr on sy lt ru lg u) (tyC cI cZ cJ) [.ref (bd 0), .int (nI k)] (nI 0) := by
  refine MuI.of (cc := cX1_no) (maxL := 2) (by decide) rfl (Nat.le_of_ble_eq_true rfl) (vp_nar_int _) ?_
  intro A p e s m args below meth c Q ls hx hb hml hown hts hP hK hD kret hl
  have hown : s.vm.findClass RX1 = some m.cls := hown
  have hl : lv_has ls 2 [(0, .ref (bd 0)), (1, .int (nI k))] := hl
  have hS : va_S A s.heap s.heap [] := va_S.rf
  have hin0 : ∀ w ∈ u_ws RX1 TX1 13, w ∈ wsX1_no := hin_X1_no
  refine lv_aload_n hx hb dX1_no_0 rfl (lv_at hl 0 rfl) ?_
  refine lv_iload_n hx hb dX1_no_1 rfl (lv_at hl 1 rfl) ?_
  refine va_put (D := D) (ci := 1) (v := .int (nI k)) (ty := .int) (C := RX1) (T := TX1) (N := 13) hx hb hts hin0 tyX1 tyX1_ok nmX1 hown hK hP hD hS 0 rfl rfl 0 (by decide) (hts (.fieldLink RX1 45 "RumourReasonerModel" "thrown" "I") (by decide +kernel)) (fun _ h9 => h9) rfl (by decide +kernel) rfl rfl (Nat.le_of_ble_eq_true rfl) dX1_no_2 (fun H locs hP hD hS => ?_)
  have hP : va_P D vwCl (wM bd cI cZ cJ (nI k) n kd fi se sd tr on sy lt ru lg rs) H := hP
  have hD : va_D A (wM bd cI cZ cJ (nI k) n kd fi se sd tr on sy lt ru lg rs) := hD
  refine lv_iconst (v := nI 0) hx hb dX1_no_5 (by decide) ?_
  exact kret _ rs _ _ _ _ (rfl) hP hS dX1_no_6

theorem hin_X1_isFormula : ∀ w ∈ wsX10, w ∈ wsX1_isFormula := by first | exact fun _ h => List.mem_cons_of_mem _ (List.mem_append_right _ h) | exact fun _ h => List.mem_cons_of_mem _ (List.mem_append_left _ (List.mem_append_right _ h)) | exact fun _ h => List.mem_cons_of_mem _ (List.mem_append_left _ (List.mem_append_left _ (List.mem_append_right _ h))) | exact fun _ h => List.mem_cons_of_mem _ (List.mem_append_left _ (List.mem_append_left _ (List.mem_append_left _ (List.mem_append_right _ h)))) | decide +kernel
def rm_X1_isFormula : Room := { frames := 1, cells := 0, slots := 0, locals := 22 }
set_option maxHeartbeats 4000000 in
set_option maxRecDepth 100000 in
theorem c_X1_isFormula (x : Int32) : PuI l yX1_isFormula wsX1_isFormula rm_X1_isFormula D vwCl (wM bd cI cZ cJ th n kd fi se sd tr on sy lt ru lg rs) (tyC cI cZ cJ) [.ref (bd 0), .int x] (bI (isF n x)) := by
  refine PuI.of (cc := cX1_isFormula) (maxL := 2) (by decide) rfl (Nat.le_of_ble_eq_true rfl) (bI_n _) ?_
  intro p e s m args below meth c Q ls hx hb hml hown hts hP hK kret hl
  have hown : s.vm.findClass RX1 = some m.cls := hown
  have hl : lv_has ls 2 [(0, .ref (bd 0)), (1, .int x)] := hl
  have hS : va_S (fun _ => False) s.heap s.heap [] := va_S.rf
  have hin0 : ∀ w ∈ u_ws RX1 TX1 13, w ∈ wsX1_isFormula := hin_X1_isFormula
  refine lv_iload_n hx hb dX1_isFormula_0 rfl (lv_at hl 1 rfl) ?_
  refine lv_iconst (v := nI 0) hx hb dX1_isFormula_1 (by decide) ?_
  refine lv_aload_n hx hb dX1_isFormula_2 rfl (lv_at hl 0 rfl) ?_
  refine va_get (D := D) (ci := 1) (v := .int (nI n)) (C := RX1) (T := TX1) (N := 13) hx hb hts hin0 hown hK hP 0 rfl rfl 1 (by decide) (hts (.fieldLink RX1 48 "RumourReasonerModel" "formulas" "I") (by decide +kernel)) (fun _ h9 => h9) rfl dX1_isFormula_3 ?_
  refine lv_iconst (v := nI 1) hx hb dX1_isFormula_6 (by decide) ?_
  refine lv_isub hx hb dX1_isFormula_7 ?_
  refine puI_S (own := RX1) (As := [.int x, .int (nI 0), .int ((nI n) - (nI 1))]) (rest := []) ⟨hx, hb, hml, hown, hts⟩ (c_X1_isIn l D x (nI 0) ((nI n) - (nI 1))) gX1_isFormula_X1_isIn rfl ⟨rfl, rfl⟩ 3 rfl (by decide +kernel) ⟨Nat.le_of_ble_eq_true rfl, Nat.le_of_ble_eq_true rfl⟩ nilP (hK.sub (tys' := []) [] rfl) hS hl.1 rfl (Nat.le_of_ble_eq_true rfl) dX1_isFormula_8 ⟨Nat.zero_le _, Nat.zero_le _⟩ (fun H locs hk1 hS => ?_)
  replace hP := keptP hP hk1
  exact kret _ _ _ _ _ (rfl) hS dX1_isFormula_11

theorem hin_X1_isHeard : ∀ w ∈ wsX10, w ∈ wsX1_isHeard := by first | exact fun _ h => List.mem_cons_of_mem _ (List.mem_append_right _ h) | exact fun _ h => List.mem_cons_of_mem _ (List.mem_append_left _ (List.mem_append_right _ h)) | exact fun _ h => List.mem_cons_of_mem _ (List.mem_append_left _ (List.mem_append_left _ (List.mem_append_right _ h))) | exact fun _ h => List.mem_cons_of_mem _ (List.mem_append_left _ (List.mem_append_left _ (List.mem_append_left _ (List.mem_append_right _ h)))) | decide +kernel
def rm_X1_isHeard : Room := { frames := 0, cells := 0, slots := 0, locals := 0 }
set_option maxHeartbeats 4000000 in
set_option maxRecDepth 100000 in
theorem c_X1_isHeard (hM : OKM n kd fi se tr sy lt lg ru) (a : Nat) (ha : a < 6) : PuI l yX1_isHeard wsX1_isHeard rm_X1_isHeard D vwCl (wM bd cI cZ cJ th n kd fi se sd tr on sy lt ru lg rs) (tyC cI cZ cJ) [.ref (bd 0), .int (nI a)] (bI (hdB tr on lt a)) := by
  refine PuI.of (cc := cX1_isHeard) (maxL := 2) (by decide) rfl (Nat.le_of_ble_eq_true rfl) (bI_n _) ?_
  intro p e s m args below meth c Q ls hx hb hml hown hts hP hK kret hl
  have hown : s.vm.findClass RX1 = some m.cls := hown
  have hl : lv_has ls 2 [(0, .ref (bd 0)), (1, .int (nI a))] := hl
  have hS : va_S (fun _ => False) s.heap s.heap [] := va_S.rf
  have hin0 : ∀ w ∈ u_ws RX1 TX1 13, w ∈ wsX1_isHeard := hin_X1_isHeard
  refine lv_aload_n hx hb dX1_isHeard_0 rfl (lv_at hl 0 rfl) ?_
  refine va_get (D := D) (ci := 1) (v := .ref (bd 6)) (C := RX1) (T := TX1) (N := 13) hx hb hts hin0 hown hK hP 0 rfl rfl 7 (by decide) (hts (.fieldLink RX1 26 "RumourReasonerModel" "areOn" "[Z") (by decide +kernel)) (fun _ h9 => h9) rfl dX1_isHeard_1 ?_
  refine lv_iload_n hx hb dX1_isHeard_4 rfl (lv_at hl 1 rfl) ?_
  refine ld_nz hx hb hK hP 6 1 rfl rfl (j := a) (by omega) (by decide) dX1_isHeard_5 ?_
  refine lv_if_eq (tgt := 26) hx hb dX1_isHeard_6 (by decide) (fun c_1 => ?_) (fun c_1 => ?_)
  · have e_6 := bI_0 c_1
    refine lv_iconst (v := nI 0) hx hb dX1_isHeard_26 (by decide) ?_
    exact kret _ _ _ _ _ (by unfold hdB; first | (simp only [e_6]; rfl) | (simp [e_6, bI]; done) | (simp [e_6, bI, nI]; done)) hS dX1_isHeard_27
  · have e_6 := bI_1 c_1
    refine lv_aload_n hx hb dX1_isHeard_9 rfl (lv_at hl 0 rfl) ?_
    refine va_get (D := D) (ci := 1) (v := .ref (bd 5)) (C := RX1) (T := TX1) (N := 13) hx hb hts hin0 hown hK hP 0 rfl rfl 6 (by decide) (hts (.fieldLink RX1 23 "RumourReasonerModel" "trusts" "[I") (by decide +kernel)) (fun _ h9 => h9) rfl dX1_isHeard_10 ?_
    refine lv_iload_n hx hb dX1_isHeard_13 rfl (lv_at hl 1 rfl) ?_
    refine ld_ni hx hb hK hP 5 0 rfl rfl (j := a) (by omega) (by decide) dX1_isHeard_14 ?_
    refine lv_aload_n hx hb dX1_isHeard_15 rfl (lv_at hl 0 rfl) ?_
    refine va_get (D := D) (ci := 1) (v := .int (nI lt)) (C := RX1) (T := TX1) (N := 13) hx hb hts hin0 hown hK hP 0 rfl rfl 9 (by decide) (hts (.fieldLink RX1 32 "RumourReasonerModel" "leastTrust" "I") (by decide +kernel)) (fun _ h9 => h9) rfl dX1_isHeard_16 ?_
    refine lv_icmp_lt (tgt := 26) hx hb dX1_isHeard_19 (by decide) (fun c_2 => ?_) (fun c_2 => ?_)
    · have e_19 : decide (lt ≤ tr a) = false := decide_eq_false (fun q => nI_nlt q (Nat.lt_of_le_of_lt (hM.2.1 a ha) (by decide)) c_2)
      refine lv_iconst (v := nI 0) hx hb dX1_isHeard_26 (by decide) ?_
      exact kret _ _ _ _ _ (by unfold hdB; first | (simp only [e_6, e_19]; rfl) | (simp [e_6, e_19, bI]; done) | (simp [e_6, e_19, bI, nI]; done)) hS dX1_isHeard_27
    · have e_19 : decide (lt ≤ tr a) = true := decide_eq_true (Nat.not_lt.mp (fun q => c_2 (nI_lt q (Nat.lt_of_le_of_lt hM.2.2.2.1 (by decide)))))
      refine lv_iconst (v := nI 1) hx hb dX1_isHeard_22 (by decide) ?_
      refine lv_goto (tgt := 27) hx hb dX1_isHeard_23 (by decide) ?_
      exact kret _ _ _ _ _ (by unfold hdB; first | (simp only [e_6, e_19]; rfl) | (simp [e_6, e_19, bI]; done) | (simp [e_6, e_19, bI, nI]; done)) hS dX1_isHeard_27

def rm_X1_heardSet : Room := { frames := 1, cells := 0, slots := 0, locals := 21 }
set_option maxHeartbeats 4000000 in
set_option maxRecDepth 100000 in
theorem c_X1_heardSet (hM : OKM n kd fi se tr sy lt lg ru) : PuI l yX1_heardSet wsX1_heardSet rm_X1_heardSet D vwCl (wM bd cI cZ cJ th n kd fi se sd tr on sy lt ru lg rs) (tyC cI cZ cJ) [.ref (bd 0)] (nI (hsS tr on lt 6)) := by
  refine PuI.of (cc := cX1_heardSet) (maxL := 3) (by decide) rfl (Nat.le_of_ble_eq_true rfl) (vp_nar_int _) ?_
  intro p e s m args below meth c Q ls hx hb hml hown hts hP hK kret hl
  have hown : s.vm.findClass RX1 = some m.cls := hown
  have hl : lv_has ls 3 [(0, .ref (bd 0))] := hl
  have hS : va_S (fun _ => False) s.heap s.heap [] := va_S.rf
  refine lv_iconst (v := nI 0) hx hb dX1_heardSet_0 (by decide) ?_
  refine lv_istore_n (lv' := [(1, .int (nI 0)), (0, .ref (bd 0))]) hx hb dX1_heardSet_1 rfl hl (by decide) rfl (fun ls hl => ?_)
  refine lv_iconst (v := nI 0) hx hb dX1_heardSet_2 (by decide) ?_
  refine lv_istore_n (lv' := [(2, .int (nI 0)), (1, .int (nI 0)), (0, .ref (bd 0))]) hx hb dX1_heardSet_3 rfl hl (by decide) rfl (fun ls hl => ?_)
  have key1 : ∀ (d3 i2 : Nat), i2 + d3 = 6 → ∀ (H : Heap) (locs : List Loc) (ls : Array Slot), va_P D vwCl (wM bd cI cZ cJ th n kd fi se sd tr on sy lt ru lg rs) H → va_S (fun _ => False) s.heap H locs → lv_has ls 3 [(2, .int (nI i2)), (1, .int (nI (hsS tr on lt i2))), (0, .ref (bd 0))] → W p l e rm_X1_heardSet s m args below meth c H locs 0 0 Q (F0 m 4 ls []) := by
    intro d3
    induction d3 with
    | zero =>
      intro i2 hi_i2 H locs ls hP hS hl
      obtain rfl : i2 = 6 := by omega
      refine lv_iload_n hx hb dX1_heardSet_4 rfl (lv_at hl 0 rfl) ?_
      refine lv_bipush (v := nI 6) hx hb dX1_heardSet_5 (by decide) ?_
      refine cT_ge (tgt := 30) hx hb dX1_heardSet_7 (by decide) (nI_le (by omega) (by omega)) ?_
      refine lv_iload_n hx hb dX1_heardSet_30 rfl (lv_at hl 1 rfl) ?_
      exact kret _ _ _ _ _ (rfl) hS dX1_heardSet_31
    | succ d3 ih_i2 =>
      intro i2 hi_i2 H locs ls hP hS hl
      refine lv_iload_n hx hb dX1_heardSet_4 rfl (lv_at hl 0 rfl) ?_
      refine lv_bipush (v := nI 6) hx hb dX1_heardSet_5 (by decide) ?_
      refine cF_ge (tgt := 30) hx hb dX1_heardSet_7 (by decide) (nI_ge (by omega) (by omega)) ?_
      refine lv_aload_n hx hb dX1_heardSet_10 rfl (lv_at hl 2 rfl) ?_
      refine lv_iload_n hx hb dX1_heardSet_11 rfl (lv_at hl 0 rfl) ?_
      refine puI_V (own := RX1) (As := [.int (nI i2)]) (rest := []) (C := RX1) (ci := 1) (q0 := 0) ⟨hx, hb, hml, hown, hts⟩ (c_X1_isHeard l D bd cI cZ cJ th n kd fi se sd tr on sy lt ru lg rs hM i2 (by omega)) gX1_heardSet_X1_isHeard rfl ⟨rfl, rfl⟩ 1 rfl (by decide +kernel) ⟨Nat.le_of_ble_eq_true rfl, Nat.le_of_ble_eq_true rfl⟩ hP hK rfl rfl rfl hS hl.1 rfl (Nat.le_of_ble_eq_true rfl) dX1_heardSet_12 ⟨Nat.zero_le _, Nat.zero_le _⟩ (fun H locs hk1 hS => ?_)
      replace hP := keptP hP hk1
      refine lv_if_eq (tgt := 24) hx hb dX1_heardSet_15 (by decide) (fun c_4 => ?_) (fun c_4 => ?_)
      · have e_15 := bI_0 c_4
        refine lv_iinc (v := nI (i2 + 1)) (lv' := [(2, .int (nI (i2 + 1))), (1, .int (nI (hsS tr on lt i2))), (0, .ref (bd 0))]) hx hb dX1_heardSet_24 hl (k := 0) rfl (iinc1 _) (by decide) rfl (fun ls hl => ?_)
        refine lv_goto (tgt := 4) hx hb dX1_heardSet_27 (by decide) ?_
        exact ih_i2 (i2 + 1) (by omega) H locs ls hP hS (by have h9 := lv_sub hl [0, 1, 2] rfl; rw [show hsS tr on lt (i2 + 1) = hsS tr on lt i2 from if_neg (fun q => Bool.noConfusion (e_15.symm.trans q))]; exact h9)
      · have e_15 := bI_1 c_4
        refine lv_iload_n hx hb dX1_heardSet_18 rfl (lv_at hl 1 rfl) ?_
        refine lv_iconst (v := nI 1) hx hb dX1_heardSet_19 (by decide) ?_
        refine lv_iload_n hx hb dX1_heardSet_20 rfl (lv_at hl 0 rfl) ?_
        refine lv_ishl hx hb dX1_heardSet_21 ?_
        refine tc_int (y := nI (2 ^ i2)) (shl1 (by omega)) ?_
        refine lv_ior hx hb dX1_heardSet_22 ?_
        refine tc_int (y := nI (hsS tr on lt i2 ||| 2 ^ i2)) (fa_or _ _) ?_
        refine lv_istore_n (lv' := [(1, .int (nI (hsS tr on lt i2 ||| 2 ^ i2))), (2, .int (nI i2)), (0, .ref (bd 0))]) hx hb dX1_heardSet_23 rfl hl (by decide) rfl (fun ls hl => ?_)
        refine lv_iinc (v := nI (i2 + 1)) (lv' := [(2, .int (nI (i2 + 1))), (1, .int (nI (hsS tr on lt i2 ||| 2 ^ i2))), (0, .ref (bd 0))]) hx hb dX1_heardSet_24 hl (k := 1) rfl (iinc1 _) (by decide) rfl (fun ls hl => ?_)
        refine lv_goto (tgt := 4) hx hb dX1_heardSet_27 (by decide) ?_
        exact ih_i2 (i2 + 1) (by omega) H locs ls hP hS (by have h9 := lv_sub hl [0, 1, 2] rfl; rw [show hsS tr on lt (i2 + 1) = hsS tr on lt i2 ||| 2 ^ i2 from if_pos e_15]; exact h9)
  exact key1 (6) 0 (by omega) _ _ ls hP hS (lv_sub hl [0, 1, 2] rfl)

theorem hin_X1_givenBy : ∀ w ∈ wsX10, w ∈ wsX1_givenBy := by first | exact fun _ h => List.mem_cons_of_mem _ (List.mem_append_right _ h) | exact fun _ h => List.mem_cons_of_mem _ (List.mem_append_left _ (List.mem_append_right _ h)) | exact fun _ h => List.mem_cons_of_mem _ (List.mem_append_left _ (List.mem_append_left _ (List.mem_append_right _ h))) | exact fun _ h => List.mem_cons_of_mem _ (List.mem_append_left _ (List.mem_append_left _ (List.mem_append_left _ (List.mem_append_right _ h)))) | decide +kernel
def rm_X1_givenBy : Room := { frames := 1, cells := 0, slots := 0, locals := 21 }
set_option maxHeartbeats 4000000 in
set_option maxRecDepth 100000 in
theorem c_X1_givenBy (hM : OKM n kd fi se tr sy lt lg ru) (wh a : Nat) (hwh : wh < 64) (ha : a < 6) : PuI l yX1_givenBy wsX1_givenBy rm_X1_givenBy D vwCl (wM bd cI cZ cJ th n kd fi se sd tr on sy lt ru lg rs) (tyC cI cZ cJ) [.ref (bd 0), .int (nI wh), .int (nI a)] (nI (gbS sy wh a 6)) := by
  refine PuI.of (cc := cX1_givenBy) (maxL := 5) (by decide) rfl (Nat.le_of_ble_eq_true rfl) (vp_nar_int _) ?_
  intro p e s m args below meth c Q ls hx hb hml hown hts hP hK kret hl
  have hown : s.vm.findClass RX1 = some m.cls := hown
  have hl : lv_has ls 5 [(0, .ref (bd 0)), (1, .int (nI wh)), (2, .int (nI a))] := hl
  have hS : va_S (fun _ => False) s.heap s.heap [] := va_S.rf
  have hin0 : ∀ w ∈ u_ws RX1 TX1 13, w ∈ wsX1_givenBy := hin_X1_givenBy
  refine lv_iconst (v := nI 0) hx hb dX1_givenBy_0 (by decide) ?_
  refine lv_istore_n (lv' := [(3, .int (nI 0)), (0, .ref (bd 0)), (1, .int (nI wh)), (2, .int (nI a))]) hx hb dX1_givenBy_1 rfl hl (by decide) rfl (fun ls hl => ?_)
  refine lv_iconst (v := nI 0) hx hb dX1_givenBy_2 (by decide) ?_
  refine lv_istore (lv' := [(4, .int (nI 0)), (3, .int (nI 0)), (0, .ref (bd 0)), (1, .int (nI wh)), (2, .int (nI a))]) hx hb dX1_givenBy_3 hl (by decide) rfl (fun ls hl => ?_)
  have key1 : ∀ (d3 i2 : Nat), i2 + d3 = 6 → ∀ (H : Heap) (locs : List Loc) (ls : Array Slot), va_P D vwCl (wM bd cI cZ cJ th n kd fi se sd tr on sy lt ru lg rs) H → va_S (fun _ => False) s.heap H locs → lv_has ls 5 [(4, .int (nI i2)), (3, .int (nI (gbS sy wh a i2))), (0, .ref (bd 0)), (1, .int (nI wh)), (2, .int (nI a))] → W p l e rm_X1_givenBy s m args below meth c H locs 0 0 Q (F0 m 5 ls []) := by
    intro d3
    induction d3 with
    | zero =>
      intro i2 hi_i2 H locs ls hP hS hl
      obtain rfl : i2 = 6 := by omega
      refine lv_iload hx hb dX1_givenBy_5 (lv_at hl 0 rfl) ?_
      refine lv_bipush (v := nI 6) hx hb dX1_givenBy_7 (by decide) ?_
      refine cT_ge (tgt := 42) hx hb dX1_givenBy_9 (by decide) (nI_le (by omega) (by omega)) ?_
      refine lv_iload_n hx hb dX1_givenBy_42 rfl (lv_at hl 1 rfl) ?_
      exact kret _ _ _ _ _ (rfl) hS dX1_givenBy_43
    | succ d3 ih_i2 =>
      intro i2 hi_i2 H locs ls hP hS hl
      refine lv_iload hx hb dX1_givenBy_5 (lv_at hl 0 rfl) ?_
      refine lv_bipush (v := nI 6) hx hb dX1_givenBy_7 (by decide) ?_
      refine cF_ge (tgt := 42) hx hb dX1_givenBy_9 (by decide) (nI_ge (by omega) (by omega)) ?_
      refine lv_iload_n hx hb dX1_givenBy_12 rfl (lv_at hl 3 rfl) ?_
      refine lv_iload hx hb dX1_givenBy_13 (lv_at hl 0 rfl) ?_
      refine puI_S (own := RX1) (As := [.int (nI wh), .int (nI i2)]) (rest := []) ⟨hx, hb, hml, hown, hts⟩ (c_X1_has l D wh i2 (by omega) (by omega)) gX1_givenBy_X1_has rfl ⟨rfl, rfl⟩ 2 rfl (by decide +kernel) ⟨Nat.le_of_ble_eq_true rfl, Nat.le_of_ble_eq_true rfl⟩ nilP (hK.sub (tys' := []) [] rfl) hS hl.1 rfl (Nat.le_of_ble_eq_true rfl) dX1_givenBy_15 ⟨Nat.zero_le _, Nat.zero_le _⟩ (fun H locs hk1 hS => ?_)
      replace hP := keptP hP hk1
      refine lv_if_eq (tgt := 36) hx hb dX1_givenBy_18 (by decide) (fun c_4 => ?_) (fun c_4 => ?_)
      · have e_18 := bI_0 c_4
        refine lv_iinc (v := nI (i2 + 1)) (lv' := [(4, .int (nI (i2 + 1))), (3, .int (nI (gbS sy wh a i2))), (0, .ref (bd 0)), (1, .int (nI wh)), (2, .int (nI a))]) hx hb dX1_givenBy_36 hl (k := 0) rfl (iinc1 _) (by decide) rfl (fun ls hl => ?_)
        refine lv_goto (tgt := 5) hx hb dX1_givenBy_39 (by decide) ?_
        exact ih_i2 (i2 + 1) (by omega) H locs ls hP hS (by have h9 := lv_sub hl [0, 1, 2, 3, 4] rfl; rw [show gbS sy wh a (i2 + 1) = gbS sy wh a i2 from if_neg (fun q => Bool.noConfusion (e_18.symm.trans q))]; exact h9)
      · have e_18 := bI_1 c_4
        refine lv_iload_n hx hb dX1_givenBy_21 rfl (lv_at hl 1 rfl) ?_
        refine lv_aload_n hx hb dX1_givenBy_22 rfl (lv_at hl 2 rfl) ?_
        refine va_get (D := D) (ci := 1) (v := .ref (bd 7)) (C := RX1) (T := TX1) (N := 13) hx hb hts hin0 hown hK hP 0 rfl rfl 8 (by decide) (hts (.fieldLink RX1 29 "RumourReasonerModel" "says" "[I") (by decide +kernel)) (fun _ h9 => h9) rfl dX1_givenBy_23 ?_
        refine lv_bipush (v := nI 6) hx hb dX1_givenBy_26 (by decide) ?_
        refine lv_iload hx hb dX1_givenBy_28 (lv_at hl 0 rfl) ?_
        refine lv_imul hx hb dX1_givenBy_30 ?_
        refine tc_int (y := nI (6 * i2)) (pk_mul _ _) ?_
        refine lv_iload_n hx hb dX1_givenBy_31 rfl (lv_at hl 4 rfl) ?_
        refine lv_iadd hx hb dX1_givenBy_32 ?_
        refine tc_int (y := nI ((6 * i2) + a)) (nI_add _ _) ?_
        refine ld_ni hx hb hK hP 7 0 rfl rfl (j := ((6 * i2) + a)) (by omega) (by decide) dX1_givenBy_33 ?_
        refine lv_ior hx hb dX1_givenBy_34 ?_
        refine tc_int (y := nI (gbS sy wh a i2 ||| sy (6 * i2 + a))) (fa_or _ _) ?_
        refine lv_istore_n (lv' := [(3, .int (nI (gbS sy wh a i2 ||| sy (6 * i2 + a)))), (4, .int (nI i2)), (0, .ref (bd 0)), (1, .int (nI wh)), (2, .int (nI a))]) hx hb dX1_givenBy_35 rfl hl (by decide) rfl (fun ls hl => ?_)
        refine lv_iinc (v := nI (i2 + 1)) (lv' := [(4, .int (nI (i2 + 1))), (3, .int (nI (gbS sy wh a i2 ||| sy (6 * i2 + a)))), (0, .ref (bd 0)), (1, .int (nI wh)), (2, .int (nI a))]) hx hb dX1_givenBy_36 hl (k := 1) rfl (iinc1 _) (by decide) rfl (fun ls hl => ?_)
        refine lv_goto (tgt := 5) hx hb dX1_givenBy_39 (by decide) ?_
        exact ih_i2 (i2 + 1) (by omega) H locs ls hP hS (by have h9 := lv_sub hl [0, 1, 2, 3, 4] rfl; rw [show gbS sy wh a (i2 + 1) = gbS sy wh a i2 ||| sy (6 * i2 + a) from if_pos e_18]; exact h9)
  exact key1 (6) 0 (by omega) _ _ ls hP hS (lv_sub hl [0, 1, 2, 3, 4] rfl)

def rm_X1_begin : Room := { frames := 2, cells := 0, slots := 0, locals := 45 }
set_option maxHeartbeats 4000000 in
set_option maxRecDepth 100000 in
theorem c_X1_begin (hM : OKM n kd fi se tr sy lt lg ru) (wh : Nat) (hwh : wh < 64) : PuI l yX1_begin wsX1_begin rm_X1_begin D vwCl (wM bd cI cZ cJ th n kd fi se sd tr on sy lt ru lg rs) (tyC cI cZ cJ) [.ref (bd 0), .int (nI wh)] (nI (mIt sy (wv kd fi se) ru wh 0)) := by
  refine PuI.of (cc := cX1_begin) (maxL := 4) (by decide) rfl (Nat.le_of_ble_eq_true rfl) (vp_nar_int _) ?_
  intro p e s m args below meth c Q ls hx hb hml hown hts hP hK kret hl
  have hown : s.vm.findClass RX1 = some m.cls := hown
  have hl : lv_has ls 4 [(0, .ref (bd 0)), (1, .int (nI wh))] := hl
  have hS : va_S (fun _ => False) s.heap s.heap [] := va_S.rf
  refine lv_iconst (v := nI 0) hx hb dX1_begin_0 (by decide) ?_
  refine lv_istore_n (lv' := [(2, .int (nI 0)), (0, .ref (bd 0)), (1, .int (nI wh))]) hx hb dX1_begin_1 rfl hl (by decide) rfl (fun ls hl => ?_)
  refine lv_iconst (v := nI 0) hx hb dX1_begin_2 (by decide) ?_
  refine lv_istore_n (lv' := [(3, .int (nI 0)), (2, .int (nI 0)), (0, .ref (bd 0)), (1, .int (nI wh))]) hx hb dX1_begin_3 rfl hl (by decide) rfl (fun ls hl => ?_)
  have key1 : ∀ (d3 i2 : Nat), i2 + d3 = 6 → ∀ (H : Heap) (locs : List Loc) (ls : Array Slot), va_P D vwCl (wM bd cI cZ cJ th n kd fi se sd tr on sy lt ru lg rs) H → va_S (fun _ => False) s.heap H locs → lv_has ls 4 [(3, .int (nI i2)), (2, .int (nI (bgS (fun a => gbS sy wh a 6) i2))), (0, .ref (bd 0)), (1, .int (nI wh))] → W p l e rm_X1_begin s m args below meth c H locs 0 0 Q (F0 m 4 ls []) := by
    intro d3
    induction d3 with
    | zero =>
      intro i2 hi_i2 H locs ls hP hS hl
      obtain rfl : i2 = 6 := by omega
      refine lv_iload_n hx hb dX1_begin_4 rfl (lv_at hl 0 rfl) ?_
      refine lv_bipush (v := nI 6) hx hb dX1_begin_5 (by decide) ?_
      refine cT_ge (tgt := 27) hx hb dX1_begin_7 (by decide) (nI_le (by omega) (by omega)) ?_
      refine lv_iload_n hx hb dX1_begin_27 rfl (lv_at hl 1 rfl) ?_
      exact kret _ _ _ _ _ (rfl) hS dX1_begin_28
    | succ d3 ih_i2 =>
      intro i2 hi_i2 H locs ls hP hS hl
      refine lv_iload_n hx hb dX1_begin_4 rfl (lv_at hl 0 rfl) ?_
      refine lv_bipush (v := nI 6) hx hb dX1_begin_5 (by decide) ?_
      refine cF_ge (tgt := 27) hx hb dX1_begin_7 (by decide) (nI_ge (by omega) (by omega)) ?_
      refine lv_iconst (v := nI 4) hx hb dX1_begin_10 (by decide) ?_
      refine lv_iload_n hx hb dX1_begin_11 rfl (lv_at hl 1 rfl) ?_
      refine lv_imul hx hb dX1_begin_12 ?_
      refine tc_int (y := nI (4 * (bgS (fun a => gbS sy wh a 6) i2))) (pk_mul _ _) ?_
      refine lv_aload_n hx hb dX1_begin_13 rfl (lv_at hl 2 rfl) ?_
      refine lv_iload_n hx hb dX1_begin_14 rfl (lv_at hl 3 rfl) ?_
      refine lv_iload_n hx hb dX1_begin_15 rfl (lv_at hl 0 rfl) ?_
      refine puI_V (own := RX1) (As := [.int (nI wh), .int (nI i2)]) (rest := [.int (nI (4 * (bgS (fun a => gbS sy wh a 6) i2)))]) (C := RX1) (ci := 1) (q0 := 0) ⟨hx, hb, hml, hown, hts⟩ (c_X1_givenBy l D bd cI cZ cJ th n kd fi se sd tr on sy lt ru lg rs hM wh i2 (by omega) (by omega)) gX1_begin_X1_givenBy rfl ⟨rfl, rfl⟩ 2 rfl (by decide +kernel) ⟨Nat.le_of_ble_eq_true rfl, Nat.le_of_ble_eq_true rfl⟩ hP hK rfl rfl rfl hS hl.1 rfl (Nat.le_of_ble_eq_true rfl) dX1_begin_16 ⟨Nat.zero_le _, Nat.zero_le _⟩ (fun H locs hk1 hS => ?_)
      replace hP := keptP hP hk1
      refine lv_iadd hx hb dX1_begin_19 ?_
      refine tc_int (y := nI ((4 * (bgS (fun a => gbS sy wh a 6) i2)) + (gbS sy wh i2 6))) (nI_add _ _) ?_
      refine lv_istore_n (lv' := [(2, .int (nI ((4 * (bgS (fun a => gbS sy wh a 6) i2)) + (gbS sy wh i2 6)))), (3, .int (nI i2)), (0, .ref (bd 0)), (1, .int (nI wh))]) hx hb dX1_begin_20 rfl hl (by decide) rfl (fun ls hl => ?_)
      refine lv_iinc (v := nI (i2 + 1)) (lv' := [(3, .int (nI (i2 + 1))), (2, .int (nI ((4 * (bgS (fun a => gbS sy wh a 6) i2)) + (gbS sy wh i2 6)))), (0, .ref (bd 0)), (1, .int (nI wh))]) hx hb dX1_begin_21 hl (k := 1) rfl (iinc1 _) (by decide) rfl (fun ls hl => ?_)
      refine lv_goto (tgt := 4) hx hb dX1_begin_24 (by decide) ?_
      exact ih_i2 (i2 + 1) (by omega) H locs ls hP hS (lv_sub hl [0, 1, 2, 3] rfl)
  exact key1 (6) 0 (by omega) _ _ ls hP hS (lv_sub hl [0, 1, 2, 3] rfl)

theorem hin_X1_counts : ∀ w ∈ wsX10, w ∈ wsX1_counts := by first | exact fun _ h => List.mem_cons_of_mem _ (List.mem_append_right _ h) | exact fun _ h => List.mem_cons_of_mem _ (List.mem_append_left _ (List.mem_append_right _ h)) | exact fun _ h => List.mem_cons_of_mem _ (List.mem_append_left _ (List.mem_append_left _ (List.mem_append_right _ h))) | exact fun _ h => List.mem_cons_of_mem _ (List.mem_append_left _ (List.mem_append_left _ (List.mem_append_left _ (List.mem_append_right _ h)))) | decide +kernel
def rm_X1_counts : Room := { frames := 1, cells := 0, slots := 0, locals := 21 }
set_option maxHeartbeats 4000000 in
set_option maxRecDepth 100000 in
theorem c_X1_counts (hM : OKM n kd fi se tr sy lt lg ru) (v : Nat) (hv : v < 4096) : PuI l yX1_counts wsX1_counts rm_X1_counts D vwCl (wM bd cI cZ cJ th n kd fi se sd tr on sy lt ru lg rs) (tyC cI cZ cJ) [.ref (bd 0), .int (nI v)] (bI (cnS lg v 6)) := by
  refine PuI.of (cc := cX1_counts) (maxL := 4) (by decide) rfl (Nat.le_of_ble_eq_true rfl) (bI_n _) ?_
  intro p e s m args below meth c Q ls hx hb hml hown hts hP hK kret hl
  have hown : s.vm.findClass RX1 = some m.cls := hown
  have hl : lv_has ls 4 [(0, .ref (bd 0)), (1, .int (nI v))] := hl
  have hS : va_S (fun _ => False) s.heap s.heap [] := va_S.rf
  have hin0 : ∀ w ∈ u_ws RX1 TX1 13, w ∈ wsX1_counts := hin_X1_counts
  have hlg := hM.2.2.2.2.1
  refine lv_iconst (v := nI 1) hx hb dX1_counts_0 (by decide) ?_
  refine tc_int (y := bI (cnS lg v 0)) (rfl) ?_
  refine lv_istore_n (lv' := [(2, .int (bI (cnS lg v 0))), (0, .ref (bd 0)), (1, .int (nI v))]) hx hb dX1_counts_1 rfl hl (by decide) rfl (fun ls hl => ?_)
  refine lv_iconst (v := nI 0) hx hb dX1_counts_2 (by decide) ?_
  refine lv_istore_n (lv' := [(3, .int (nI 0)), (2, .int (bI (cnS lg v 0))), (0, .ref (bd 0)), (1, .int (nI v))]) hx hb dX1_counts_3 rfl hl (by decide) rfl (fun ls hl => ?_)
  have key1 : ∀ (d3 i2 : Nat), i2 + d3 = 6 → ∀ (H : Heap) (locs : List Loc) (ls : Array Slot), va_P D vwCl (wM bd cI cZ cJ th n kd fi se sd tr on sy lt ru lg rs) H → va_S (fun _ => False) s.heap H locs → lv_has ls 4 [(3, .int (nI i2)), (2, .int (bI (cnS lg v i2))), (0, .ref (bd 0)), (1, .int (nI v))] → W p l e rm_X1_counts s m args below meth c H locs 0 0 Q (F0 m 4 ls []) := by
    intro d3
    induction d3 with
    | zero =>
      intro i2 hi_i2 H locs ls hP hS hl
      obtain rfl : i2 = 6 := by omega
      refine lv_iload_n hx hb dX1_counts_4 rfl (lv_at hl 0 rfl) ?_
      refine lv_bipush (v := nI 6) hx hb dX1_counts_5 (by decide) ?_
      refine cT_ge (tgt := 41) hx hb dX1_counts_7 (by decide) (nI_le (by omega) (by omega)) ?_
      refine lv_iload_n hx hb dX1_counts_41 rfl (lv_at hl 1 rfl) ?_
      exact kret _ _ _ _ _ (rfl) hS dX1_counts_42
    | succ d3 ih_i2 =>
      intro i2 hi_i2 H locs ls hP hS hl
      refine lv_iload_n hx hb dX1_counts_4 rfl (lv_at hl 0 rfl) ?_
      refine lv_bipush (v := nI 6) hx hb dX1_counts_5 (by decide) ?_
      refine cF_ge (tgt := 41) hx hb dX1_counts_7 (by decide) (nI_ge (by omega) (by omega)) ?_
      refine lv_iload_n hx hb dX1_counts_10 rfl (lv_at hl 1 rfl) ?_
      refine lv_if_eq (tgt := 33) hx hb dX1_counts_11 (by decide) (fun c_4 => ?_) (fun c_4 => ?_)
      · have e_11 := bI_0 c_4
        refine lv_iconst (v := nI 0) hx hb dX1_counts_33 (by decide) ?_
        refine lv_istore_n (lv' := [(2, .int (nI 0)), (3, .int (nI i2)), (0, .ref (bd 0)), (1, .int (nI v))]) hx hb dX1_counts_34 rfl hl (by decide) rfl (fun ls hl => ?_)
        refine lv_iinc (v := nI (i2 + 1)) (lv' := [(3, .int (nI (i2 + 1))), (2, .int (nI 0)), (0, .ref (bd 0)), (1, .int (nI v))]) hx hb dX1_counts_35 hl (k := 1) rfl (iinc1 _) (by decide) rfl (fun ls hl => ?_)
        refine lv_goto (tgt := 4) hx hb dX1_counts_38 (by decide) ?_
        exact ih_i2 (i2 + 1) (by omega) H locs ls hP hS (by have h9 := lv_sub hl [0, 1, 2, 3] rfl; rw [show cnS lg v (i2 + 1) = false from by show (cnS lg v i2 && _) = _; rw [e_11]; rfl]; exact h9)
      · have e_11 := bI_1 c_4
        refine lv_aload_n hx hb dX1_counts_14 rfl (lv_at hl 2 rfl) ?_
        refine va_get (D := D) (ci := 1) (v := .int (nI lg)) (C := RX1) (T := TX1) (N := 13) hx hb hts hin0 hown hK hP 0 rfl rfl 11 (by decide) (hts (.fieldLink RX1 39 "RumourReasonerModel" "logic" "I") (by decide +kernel)) (fun _ h9 => h9) rfl dX1_counts_15 ?_
        refine lv_iload_n hx hb dX1_counts_18 rfl (lv_at hl 3 rfl) ?_
        refine lv_iload_n hx hb dX1_counts_19 rfl (lv_at hl 0 rfl) ?_
        refine puI_S (own := RX1) (As := [.int (nI v), .int (nI i2)]) (rest := [.int (nI lg)]) ⟨hx, hb, hml, hown, hts⟩ (c_X1_valueIn l D v i2 (by omega) (by omega)) gX1_counts_X1_valueIn rfl ⟨rfl, rfl⟩ 2 rfl (by decide +kernel) ⟨Nat.le_of_ble_eq_true rfl, Nat.le_of_ble_eq_true rfl⟩ nilP (hK.sub (tys' := []) [] rfl) hS hl.1 rfl (Nat.le_of_ble_eq_true rfl) dX1_counts_20 ⟨Nat.zero_le _, Nat.zero_le _⟩ (fun H locs hk1 hS => ?_)
        replace hP := keptP hP hk1
        refine puI_S (own := RX1) (As := [.int (nI lg), .int (nI (dg v i2))]) (rest := []) ⟨hx, hb, hml, hown, hts⟩ (c_X1_has l D lg (dg v i2) (by omega) (Nat.lt_trans (dg_lt _ _) (by decide))) gX1_counts_X1_has rfl ⟨rfl, rfl⟩ 2 rfl (by decide +kernel) ⟨Nat.le_of_ble_eq_true rfl, Nat.le_of_ble_eq_true rfl⟩ nilP (hK.sub (tys' := []) [] rfl) hS hl.1 rfl (Nat.le_of_ble_eq_true rfl) dX1_counts_23 ⟨Nat.zero_le _, Nat.zero_le _⟩ (fun H locs hk1 hS => ?_)
        replace hP := keptP hP hk1
        refine lv_if_eq (tgt := 33) hx hb dX1_counts_26 (by decide) (fun c_5 => ?_) (fun c_5 => ?_)
        · have e_26 := bI_0 c_5
          refine lv_iconst (v := nI 0) hx hb dX1_counts_33 (by decide) ?_
          refine lv_istore_n (lv' := [(2, .int (nI 0)), (3, .int (nI i2)), (0, .ref (bd 0)), (1, .int (nI v))]) hx hb dX1_counts_34 rfl hl (by decide) rfl (fun ls hl => ?_)
          refine lv_iinc (v := nI (i2 + 1)) (lv' := [(3, .int (nI (i2 + 1))), (2, .int (nI 0)), (0, .ref (bd 0)), (1, .int (nI v))]) hx hb dX1_counts_35 hl (k := 1) rfl (iinc1 _) (by decide) rfl (fun ls hl => ?_)
          refine lv_goto (tgt := 4) hx hb dX1_counts_38 (by decide) ?_
          exact ih_i2 (i2 + 1) (by omega) H locs ls hP hS (by have h9 := lv_sub hl [0, 1, 2, 3] rfl; rw [show cnS lg v (i2 + 1) = false from by show (cnS lg v i2 && Nat.testBit lg (dg v i2)) = _; rw [e_11, e_26]; rfl]; exact h9)
        · have e_26 := bI_1 c_5
          refine lv_iconst (v := nI 1) hx hb dX1_counts_29 (by decide) ?_
          refine lv_goto (tgt := 34) hx hb dX1_counts_30 (by decide) ?_
          refine lv_istore_n (lv' := [(2, .int (nI 1)), (3, .int (nI i2)), (0, .ref (bd 0)), (1, .int (nI v))]) hx hb dX1_counts_34 rfl hl (by decide) rfl (fun ls hl => ?_)
          refine lv_iinc (v := nI (i2 + 1)) (lv' := [(3, .int (nI (i2 + 1))), (2, .int (nI 1)), (0, .ref (bd 0)), (1, .int (nI v))]) hx hb dX1_counts_35 hl (k := 1) rfl (iinc1 _) (by decide) rfl (fun ls hl => ?_)
          refine lv_goto (tgt := 4) hx hb dX1_counts_38 (by decide) ?_
          exact ih_i2 (i2 + 1) (by omega) H locs ls hP hS (by have h9 := lv_sub hl [0, 1, 2, 3] rfl; rw [show cnS lg v (i2 + 1) = true from by show (cnS lg v i2 && Nat.testBit lg (dg v i2)) = _; rw [e_11, e_26]; rfl]; exact h9)
  exact key1 (6) 0 (by omega) _ _ ls hP hS (lv_sub hl [0, 1, 2, 3] rfl)

end
